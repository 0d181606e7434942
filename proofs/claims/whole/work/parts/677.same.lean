/-! same: both sides. -/
def smP (B B' : Int → Int) (s : Int) : Bool := if en B s < 0 ∨ en B' s < 0 then decide (en B s = en B' s) else alz B B' (en B s) (en B' s)
def smE (B B' : Int → Int) : Nat → Int → Bool
  | 0, _ => true
  | m + 1, s => smP B B' s && smE B B' m (s + 1)
def sam (B B' : Int → Int) : Bool := (decide (B 2 = B' 2) && (decide (B 3 = B' 3) && decide (B 4 = B' 4))) && smE B B' 12 1
def lkB (B B' : Int → Int) : Bool := decide (pln B = pln B') && eqB (plq B) (plq B') (pln B) 0
theorem smE_i (B B' : Int → Int) : ∀ (m : Nat) (i : Int), smE B B' m i = true ↔ ∀ j, i ≤ j → j < i + m → smP B B' j = true := by
  intro m
  induction m with
  | zero =>
    intro i
    exact ⟨fun _ j h1 h2 => absurd h2 (by omega), fun _ => rfl⟩
  | succ m ih =>
    intro i
    unfold smE
    rw [Bool.and_eq_true, ih]
    constructor
    · rintro ⟨h1, h2⟩ j j0 j1
      by_cases e : j = i
      · exact e ▸ h1
      · exact h2 j (by omega) (by omega)
    · intro h
      exact ⟨h i (by omega) (by omega), fun j j0 j1 => h j (by omega) (by omega)⟩
section SMT
variable {B B' : Int → Int} {n n' : Nat}
/-- the data of s are the same in both -/
def sdP (B B' : Int → Int) (s : Int) : Prop := (0 ≤ en B s ↔ 0 ≤ en B' s) ∧ (0 ≤ en B s → ln B s = ln B' s ∧ ∀ j, 0 ≤ j → j < ln B s → B (da B s + j) = B' (da B' s + j))
theorem sm_sd (h : OKB B n) (h' : OKB B' n') (hb : Byt B) {s : Int} : smP B B' s = true ↔ sdP B B' s := by
  have r1 := en_R (b := B) (s := s) (by have := h.2.2.2.2.2.1; omega)
  have r2 := en_R (b := B') (s := s) (by have := h'.2.2.2.2.2.1; omega)
  have n1 : en B s = -1 ∨ 0 ≤ en B s := by
    rcases r1 with w | ⟨k, k0, k1, k2, k3⟩
    · exact Or.inl w
    · exact Or.inr (by omega)
  have n2 : en B' s = -1 ∨ 0 ≤ en B' s := by
    rcases r2 with w | ⟨k, k0, k1, k2, k3⟩
    · exact Or.inl w
    · exact Or.inr (by omega)
  unfold smP sdP
  by_cases c : en B s < 0 ∨ en B' s < 0
  · rw [if_pos c, decide_eq_true_iff]
    constructor
    · intro e
      exact ⟨by omega, fun w => by omega⟩
    · rintro ⟨w1, w2⟩
      omega
  · rw [if_neg c, alz_i (hb _).1]
    have d1 : da B s = B (en B s + 1) := by
      unfold da
      rw [if_neg (by omega)]
    have d2 : da B' s = B' (en B' s + 1) := by
      unfold da
      rw [if_neg (by omega)]
    rw [d1, d2]
    constructor
    · rintro ⟨w1, w2⟩
      exact ⟨by omega, fun _ => ⟨w1, w2⟩⟩
    · rintro ⟨w1, w2⟩
      exact w2 (by omega)
theorem sam_i (h : OKB B n) (h' : OKB B' n') (hb : Byt B) : sam B B' = true ↔ (B 2 = B' 2 ∧ B 3 = B' 3 ∧ B 4 = B' 4) ∧ ∀ s, 1 ≤ s → s ≤ 12 → sdP B B' s := by
  unfold sam
  rw [Bool.and_eq_true, Bool.and_eq_true, Bool.and_eq_true, decide_eq_true_iff, decide_eq_true_iff, decide_eq_true_iff, smE_i]
  constructor
  · rintro ⟨w1, w2⟩
    exact ⟨w1, fun s s0 s1 => (sm_sd h h' hb).mp (w2 s s0 (by omega))⟩
  · rintro ⟨w1, w2⟩
    exact ⟨w1, fun s s0 s1 => (sm_sd h h' hb).mpr (w2 s s0 (by omega))⟩
theorem sd_cnt (h : OKB B n) (h' : OKB B' n') (hs : ∀ s, 1 ≤ s → s ≤ 12 → sdP B B' s) {m : Nat} (hm : m ≤ 13) : cnt (pre B) m = cnt (pre B') m := by
  apply cnt_congr
  intro i hi
  by_cases c : i = 0
  · rw [c, pre_0 h, pre_0 h']
  · rw [Bool.eq_iff_iff, pre_i, pre_i]
    exact (hs i (by omega) (by omega)).1
theorem fd_eq {q : Int → Int} {o o' l : Int} (hd : ∀ j, 0 ≤ j → j < l → B (o + j) = B' (o' + j)) (hl : 0 ≤ l) : ∀ (M : Nat) (r : Int), fdz B q o l M r = fdz B' q o' l M r := by
  intro M
  induction M with
  | zero => intro r; rfl
  | succ M ih =>
    intro r
    unfold fdz
    have e : fdM B q o l r ↔ fdM B' q o' l r := by
      unfold fdM
      rw [eqB_i, eqB_i]
      constructor
      · rintro ⟨w1, w2⟩
        exact ⟨w1, fun j j0 j1 => (w2 j j0 j1).trans (hd j j0 (by omega))⟩
      · rintro ⟨w1, w2⟩
        exact ⟨w1, fun j j0 j1 => (w2 j j0 j1).trans (hd j j0 (by omega)).symm⟩
    by_cases c : fdM B q o l r
    · rw [if_pos c, if_pos (e.mp c)]
    · rw [if_neg c, if_neg (fun w => c (e.mpr w)), ih]
theorem sd_pl (h : OKB B n) (h' : OKB B' n') (hb : Byt B) (h2 : B 2 = B' 2 ∧ B 3 = B' 3 ∧ B 4 = B' 4) (hs : ∀ s, 1 ≤ s → s ≤ 12 → sdP B B' s) : ∀ m : Nat, m ≤ 12 → plE B m = plE B' m := by
  have h6 := h.2.2.2.2.2.1
  have h6' := h'.2.2.2.2.2.1
  have e6 : B 6 = B' 6 := by
    have w := sd_cnt h h' hs (m := 13) (by omega)
    rw [ok_cnt h, ok_cnt h'] at w
    omega
  intro m
  induction m with
  | zero =>
    intro _
    unfold plE
    rw [e6]
    refine Prod.ext rfl ?_
    funext i
    show (if 2 ≤ i ∧ i < 8 then B i else 0) = if 2 ≤ i ∧ i < 8 then B' i else 0
    by_cases c : 2 ≤ i ∧ i < 8
    · rw [if_pos c, if_pos c]
      have c' : i = 2 ∨ i = 3 ∨ i = 4 ∨ i = 5 ∨ i = 6 ∨ i = 7 := by omega
      have b5 := h.2.2.2.2.1
      have b5' := h'.2.2.2.2.1
      have b7 := h.2.2.2.2.2.2.1
      have b7' := h'.2.2.2.2.2.2.1
      rcases c' with rfl | rfl | rfl | rfl | rfl | rfl
      · exact h2.1
      · exact h2.2.1
      · exact h2.2.2
      · rw [b5, b5']
      · exact e6
      · rw [b7, b7']
    · rw [if_neg c, if_neg c]
  | succ m ih =>
    intro hm
    have i1 := ih (by omega)
    obtain ⟨d1, d2⟩ := hs ((m + 1 : Nat) : Int) (by omega) (by omega)
    have ec := sd_cnt h h' hs (m := m + 1) (by omega)
    have eT : plT B (m + 1) = plT B' (m + 1) := by
      unfold plT
      rw [ec]
    unfold plE
    rw [i1]
    by_cases c : en B ((m + 1 : Nat) : Int) < 0
    · rw [if_pos c, if_pos (by omega)]
    · have hp : 0 ≤ en B ((m + 1 : Nat) : Int) := by omega
      obtain ⟨d3, d4⟩ := d2 hp
      have l0 := (hb (en B ((m + 1 : Nat) : Int) + 2)).1
      change 0 ≤ ln B ((m + 1 : Nat) : Int) at l0
      have eF : ∀ q : Int → Int, plF B q (m + 1) = plF B' q (m + 1) := by
        intro q
        unfold plF
        rw [fd_eq d4 l0, d3, ec]
      have eS : ∀ (q : Int → Int) (e pl : Int) (nw : Bool), stp B q (plT B (m + 1)) e ((m + 1 : Nat) : Int) pl nw = stp B' q (plT B' (m + 1)) e ((m + 1 : Nat) : Int) pl nw := by
        intro q e pl nw
        funext i
        unfold stp
        rw [eT, d3]
        by_cases c4 : nw = true ∧ e ≤ i ∧ i < e + ln B' ((m + 1 : Nat) : Int)
        · rw [if_pos c4, if_pos c4, d4 (i - e) (by omega) (by omega)]
        · rw [if_neg c4, if_neg c4]
      have hp' := d1.mp hp
      rw [if_neg c, if_neg (show ¬ en B' ((m + 1 : Nat) : Int) < 0 by omega), eF, eS, eS, d3]
theorem lk_sub (h : OKB B n) (hn : n ≤ 256) (hb : Byt B) (h' : OKB B' n') (hn' : n' ≤ 256) (hb' : Byt B') (e1 : pln B = pln B') (e2 : ∀ j, 0 ≤ j → j < (pln B : Int) → plq B j = plq B' j) {s : Int} (hp : 0 ≤ en B s) : 0 ≤ en B' s ∧ ln B s = ln B' s ∧ ∀ j, 0 ≤ j → j < ln B s → B (da B s + j) = B' (da B' s + j) := by
  have h6 := h.2.2.2.2.2.1
  have h6' := h'.2.2.2.2.2.1
  have hN := pl_n h hn hb
  have hN' := pl_n h' hn' hb'
  have Q := qi_all h (by omega) hb 12 (by omega)
  have Q' := qi_all h' (by omega) hb' 12 (by omega)
  have q6 : B 6 = B' 6 := by
    have w := e2 6 (by omega) (by omega)
    unfold plq at w
    rw [if_neg (by decide), if_neg (by decide), if_neg (by decide), if_neg (by decide), Q.2.2.1 6 (by omega) (by omega), Q'.2.2.1 6 (by omega) (by omega)] at w
    exact w
  have hs12 := (ok_s h hp).1
  obtain ⟨t, rfl⟩ : ∃ t : Nat, s = (t : Int) := ⟨s.toNat, by omega⟩
  obtain ⟨g1, g2, g3, g4, g5⟩ := Q.2.2.2.2 t (by omega) (by omega) hp
  have t6 := plT_6 h (s := t) (by omega) hp
  have hk : cnt (pre B) t < cnt (pre B') 13 := by
    have w := cnt_inj (p := pre B) (s := t) (s' := 13) (by omega) (pre_i.mpr hp)
    rw [ok_cnt h] at w
    rw [ok_cnt h']
    omega
  obtain ⟨s', v1, v2, v3, v4, w1, w2, w3, w4, w5⟩ := qi_fd h' (m := 12) (by omega) Q'.2.2.2.2 (cnt (pre B) t) hk
  have eT : plT B t = plT B' s' := v4
  have E : ∀ j, 2 ≤ j → j < (pln B : Int) → (plE B 12).2 j = (plE B' 12).2 j := by
    intro j j0 j1
    have w := e2 j (by omega) j1
    unfold plq at w
    rw [if_neg (by omega), if_neg (by omega), if_neg (by omega), if_neg (by omega)] at w
    exact w
  have hQ := Q.1.2.1
  have es : (t : Int) = (s' : Int) := by
    rw [← g1, ← w1, ← eT]
    exact E _ (by omega) (by omega)
  have el : ln B (t : Int) = ln B' (s' : Int) := by
    rw [← g2, ← w2, ← eT]
    exact E _ (by omega) (by omega)
  have ep : (plE B 12).2 (plT B t + 1) = (plE B' 12).2 (plT B' s' + 1) := by
    rw [← eT]
    exact E _ (by omega) (by omega)
  obtain rfl : t = s' := by omega
  refine ⟨v3, el, fun j j0 j1 => ?_⟩
  rw [← g5 j j0 j1, ep, ← w5 j j0 (by omega)]
  exact E _ (by omega) (by omega)
theorem sam_lk (h : OKB B n) (hn : n ≤ 256) (hb : Byt B) (h' : OKB B' n') (hn' : n' ≤ 256) (hb' : Byt B') : sam B B' = lkB B B' := by
  rw [Bool.eq_iff_iff, sam_i h h' hb]
  unfold lkB
  rw [Bool.and_eq_true, decide_eq_true_iff, eqB_i]
  have hN := pl_n h hn hb
  constructor
  · rintro ⟨w1, w2⟩
    have e := sd_pl h h' hb w1 w2 12 (by omega)
    have e1 : pln B = pln B' := by
      unfold pln
      rw [e]
    refine ⟨e1, fun j j0 j1 => ?_⟩
    unfold plq
    rw [e]
  · rintro ⟨e1, e2⟩
    have e2' : ∀ j, 0 ≤ j → j < (pln B : Int) → plq B j = plq B' j := fun j j0 j1 => e2 j j0 (by omega)
    have Q := qi_all h (by omega) hb 12 (by omega)
    have Q' := qi_all h' (by omega) hb' 12 (by omega)
    have E : ∀ j, 2 ≤ j → j < 8 → B j = B' j := by
      intro j j0 j1
      have w := e2' j (by omega) (by omega)
      unfold plq at w
      rw [if_neg (by omega), if_neg (by omega), if_neg (by omega), if_neg (by omega), Q.2.2.1 j (by omega) (by omega), Q'.2.2.1 j (by omega) (by omega)] at w
      exact w
    refine ⟨⟨E 2 (by omega) (by omega), E 3 (by omega) (by omega), E 4 (by omega) (by omega)⟩, fun s s0 s1 => ⟨⟨fun w => (lk_sub h hn hb h' hn' hb' e1 e2' w).1, fun w => (lk_sub h' hn' hb' h hn hb e1.symm (fun j j0 j1 => (e2' j j0 (by omega)).symm) w).1⟩, fun w => (lk_sub h hn hb h' hn' hb' e1 e2' w).2⟩⟩
end SMT
section SMR
variable {μ : mM} {M : Nat} {K : Int → Int}
theorem rm_smL (h : KR μ M K) {p q : Int} (hp : 0 ≤ p) (hp6 : p < 6) (hq : 0 ≤ q) (hq6 : q < 6) {n n' : Nat} (hn : n ≤ 256) (hn' : n' ≤ 256) (hO : OKB (bp K p) n) (hO' : OKB (bp K q) n') : ∀ (m fu : Nat) (s : Int) (u : Bool), m < fu → 1 ≤ s → s + m = 13 → f_Mo_same_72 μ M (fun y3 => f_Mo_same_143 μ M y3) fu (iz p) (iz q) (iz (bI u)) (iz s) = some (iz (bI (u && smE (bp K p) (bp K q) m s))) := by
  have h6 := hO.2.2.2.2.2.1
  have h6' := hO'.2.2.2.2.2.1
  intro m
  induction m with
  | zero =>
    intro fu s u hf hs hm
    obtain ⟨fu, rfl⟩ : ∃ m, fu = m + 1 := ⟨fu - 1, by omega⟩
    rw [f_Mo_same_72, zi_12, qlt (iR_s (by omega) (by omega)) (iR_s (by omega) (by omega)), if_pos (by omega)]
    unfold smE f_Mo_same_143
    rw [Bool.and_true, mz_b, Option.bind_some]
  | succ m ih =>
    intro fu s u hf hs hm
    obtain ⟨fu, rfl⟩ : ∃ m, fu = m + 1 := ⟨fu - 1, by omega⟩
    rw [f_Mo_same_72, zi_12, qlt (iR_s (by omega) (by omega)) (iR_s (by omega) (by omega)), if_neg (by omega), qbI]
    cases u
    · rw [if_neg (by decide), Bool.false_and]
      exact (congrArg (fun v => v.bind fun v7 => some v7) (mz_b false)).trans rfl
    · rw [if_pos rfl, h.1, Option.bind_some, km_entry h hp hp6 (iR_s (by omega) (by omega)) (by omega), Option.bind_some, Option.bind_some, km_entry h hq hq6 (iR_s (by omega) (by omega)) (by omega), Option.bind_some, Bool.true_and]
      show _ = some (iz (bI (smP (bp K p) (bp K q) s && smE (bp K p) (bp K q) m (s + 1))))
      have r1 := en_256 h (p := p) (s := s) (by omega)
      have r2 := en_256 h (p := q) (s := s) (by omega)
      have i1 := fun w => ih fu (s + 1) w (by omega) (by omega) (by omega)
      unfold f_Mo_same_111 f_Mo_same_136
      rw [zi_1, iz_add, zi_0, qlt (iR_s (by omega) (by omega)) (iR_s (by omega) (by omega)), qle (iR_s (by omega) (by omega)) (iR_s (by omega) (by omega))]
      have e1 : iz 1 = iz (bI true) := rfl
      have e0 : iz 0 = iz (bI false) := rfl
      have J : (if iz (en (bp K p) s) = iz (en (bp K q) s) then f_Mo_same_72 μ M (fun y3 => f_Mo_same_143 μ M y3) fu (iz p) (iz q) (iz 1) (iz (s + 1)) else f_Mo_same_72 μ M (fun y3 => f_Mo_same_143 μ M y3) fu (iz p) (iz q) (iz 0) (iz (s + 1))) = some (iz (bI (decide (en (bp K p) s = en (bp K q) s) && smE (bp K p) (bp K q) m (s + 1)))) := by
        rw [qeq (iR_s (by omega) (by omega)) (iR_s (by omega) (by omega)), e1, e0, i1, i1]
        by_cases c : en (bp K p) s = en (bp K q) s
        · rw [if_pos c, decide_eq_true c]
        · rw [if_neg c, decide_eq_false c]
      rw [J]
      unfold smP
      by_cases c1 : en (bp K p) s < 0
      · rw [if_pos c1, if_pos (Or.inl c1)]
      · rw [if_neg c1]
        by_cases c2 : 0 ≤ en (bp K q) s
        · obtain ⟨k, k0, k1, k2, k3⟩ := ok_at hO (s := s) (by omega)
          obtain ⟨k', k0', k1', k2', k3'⟩ := ok_at hO' c2
          have o1 := ok_s hO (s := s) (by omega)
          have o2 := ok_s hO' c2
          have d1 : da (bp K p) s = bp K p (en (bp K p) s + 1) := by
            unfold da
            rw [if_neg (by omega)]
          have d2 : da (bp K q) s = bp K q (en (bp K q) s + 1) := by
            unfold da
            rw [if_neg (by omega)]
          have l1 : ln (bp K p) s = bp K p (en (bp K p) s + 2) := rfl
          have l2 : ln (bp K q) s = bp K q (en (bp K q) s + 2) := rfl
          have eA := rm_alike h hp hp6 hq hq6 (t := en (bp K p) s) (r := en (bp K q) s) (by omega) (by omega) (by omega) (by omega)
          rw [h.1] at eA
          rw [if_pos c2, if_neg (by omega), eA, Option.bind_some, i1]
        · rw [if_neg c2, if_pos (by omega)]
theorem rm_same {A : Nat → Nat → Int32} {S : Nat → Int32} {L : Nat → Int64} {np : Nat} (h : RB μ M A S L) (hk : KA A) (hS3 : S 3 = nI np) (hn : np ≤ 6) (hO : ∀ p : Nat, p < np → ∃ n : Nat, n ≤ 256 ∧ OKB (bp (kp A) p) n) {p q : Int} (ip : iR p) (iq : iR q) : f_Mo_same μ M (iz p) (iz q) = some (iz (bI (decide ((0 ≤ p ∧ p < np) ∧ 0 ≤ q ∧ q < np) && sam (bp (kp A) p) (bp (kp A) q)))) := by
  have kr := rb_KR h hk
  unfold f_Mo_same f_Mo_same_16
  rw [rb_there h hS3 hn ip, Option.bind_some, qbI, rb_there h hS3 hn iq, Option.bind_some, qbI]
  by_cases c : 0 ≤ p ∧ p < np
  · by_cases c2 : 0 ≤ q ∧ q < np
    · obtain ⟨n, n1, n2⟩ := hO p.toNat (by omega)
      rw [Int.toNat_of_nonneg c.1] at n2
      obtain ⟨n', n1', n2'⟩ := hO q.toNat (by omega)
      rw [Int.toNat_of_nonneg c2.1] at n2'
      have I := fun u => rm_smL kr c.1 (by omega) c2.1 (by omega) n1 n1' n2 n2' 12 4096 1 u (by omega) (by omega) (by omega)
      have b2 := bp_R kr p 2
      have b3 := bp_R kr p 3
      have b4 := bp_R kr p 4
      have b2' := bp_R kr q 2
      have b3' := bp_R kr q 3
      have b4' := bp_R kr q 4
      have I1 := I true
      have I0 := I false
      rw [show iz (bI true) = iz 1 by rfl] at I1
      rw [show iz (bI false) = iz 0 by rfl] at I0
      unfold f_Mo_same_67 f_Mo_same_68
      rw [decide_eq_true c, if_pos rfl, decide_eq_true c2, if_pos rfl, kr.1, Option.bind_some, zi_2, km_part kr c.1 (by omega) (by omega) (by omega), Option.bind_some, Option.bind_some, km_part kr c2.1 (by omega) (by omega) (by omega), Option.bind_some, Option.bind_some, zi_3, km_part kr c.1 (by omega) (by omega) (by omega), Option.bind_some, Option.bind_some, km_part kr c2.1 (by omega) (by omega) (by omega), Option.bind_some, Option.bind_some, zi_4, km_part kr c.1 (by omega) (by omega) (by omega), Option.bind_some, Option.bind_some, km_part kr c2.1 (by omega) (by omega) (by omega), Option.bind_some]
      rw [zi_1, zi_0, I1, I0, qeq (iR_s (by omega) (by omega)) (iR_s (by omega) (by omega)), qeq (a := bp (kp A) p 3) (iR_s (by omega) (by omega)) (iR_s (by omega) (by omega)), qeq (a := bp (kp A) p 4) (iR_s (by omega) (by omega)) (iR_s (by omega) (by omega)), decide_eq_true (show (0 ≤ p ∧ p < np) ∧ 0 ≤ q ∧ q < np from ⟨c, c2⟩), Bool.true_and]
      unfold sam
      by_cases e2 : bp (kp A) p 2 = bp (kp A) q 2
      · rw [if_pos e2, decide_eq_true e2]
        by_cases e3 : bp (kp A) p 3 = bp (kp A) q 3
        · rw [if_pos e3, decide_eq_true e3]
          by_cases e4 : bp (kp A) p 4 = bp (kp A) q 4
          · rw [if_pos e4, decide_eq_true e4]
            rfl
          · rw [if_neg e4, decide_eq_false e4]
            rfl
        · rw [if_neg e3, decide_eq_false e3]
          rfl
      · rw [if_neg e2, decide_eq_false e2]
        rfl
    · rw [decide_eq_true c, if_pos rfl, decide_eq_false c2, if_neg (by decide), decide_eq_false (fun w => c2 w.2)]
      rfl
  · rw [decide_eq_false c, if_neg (by decide), decide_eq_false (fun w => c w.1)]
    rfl
end SMR
