/-! The plain form, as a program over bytes. -/
def eqB (f g : Int → Int) : Nat → Int → Bool
  | 0, _ => true
  | m + 1, i => decide (f i = g i) && eqB f g m (i + 1)
theorem eqB_i (f g : Int → Int) : ∀ (m : Nat) (i : Int), eqB f g m i = true ↔ ∀ j, i ≤ j → j < i + m → f j = g j := by
  intro m
  induction m with
  | zero =>
    intro i
    exact ⟨fun _ j h1 h2 => absurd h2 (by omega), fun _ => rfl⟩
  | succ m ih =>
    intro i
    unfold eqB
    rw [Bool.and_eq_true, decide_eq_true_iff, ih]
    constructor
    · rintro ⟨h1, h2⟩ j j0 j1
      by_cases e : j = i
      · exact e ▸ h1
      · exact h2 j (by omega) (by omega)
    · intro h
      exact ⟨h i (by omega) (by omega), fun j j0 j1 => h j (by omega) (by omega)⟩
abbrev fdM (b q : Int → Int) (o l r : Int) : Prop := q (r + 2) = l ∧ eqB (fun j => q (q (r + 1) + j)) (fun j => b (o + j)) l.toNat 0 = true
def fdz (b q : Int → Int) (o l : Int) : Nat → Int → Int
  | 0, _ => 0
  | m + 1, r => if fdM b q o l r then q (r + 1) else fdz b q o l m (r + 4)
theorem fdz_c (b q : Int → Int) (o l : Int) : ∀ (M : Nat) (r : Int), fdz b q o l M r = 0 ∨ ∃ k : Nat, k < M ∧ fdM b q o l (r + 4 * k) ∧ fdz b q o l M r = q (r + 4 * k + 1) := by
  intro M
  induction M with
  | zero => intro r; exact Or.inl rfl
  | succ M ih =>
    intro r
    unfold fdz
    by_cases c : fdM b q o l r
    · rw [if_pos c]
      refine Or.inr ⟨0, by omega, ?_, ?_⟩
      · rw [show r + 4 * ((0 : Nat) : Int) = r by omega]; exact c
      · rw [show r + 4 * ((0 : Nat) : Int) = r by omega]
    · rw [if_neg c]
      rcases ih (r + 4) with h | ⟨k, h1, h2, h3⟩
      · exact Or.inl h
      · refine Or.inr ⟨k + 1, by omega, ?_, ?_⟩
        · rw [show r + 4 * ((k + 1 : Nat) : Int) = r + 4 + 4 * k by omega]; exact h2
        · rw [show r + 4 * ((k + 1 : Nat) : Int) = r + 4 + 4 * k by omega]; exact h3
theorem fdz_n (b q : Int → Int) (o l : Int) : ∀ (M : Nat) (r : Int), (∀ k : Nat, k < M → q (r + 4 * k + 1) ≠ 0) → fdz b q o l M r = 0 → ∀ k : Nat, k < M → ¬ fdM b q o l (r + 4 * k) := by
  intro M
  induction M with
  | zero => intro r _ _ k hk; omega
  | succ M ih =>
    intro r h1 h2 k hk
    unfold fdz at h2
    by_cases c : fdM b q o l r
    · rw [if_pos c] at h2
      have := h1 0 (by omega)
      rw [show r + 4 * ((0 : Nat) : Int) + 1 = r + 1 by omega] at this
      exact absurd h2 this
    · rw [if_neg c] at h2
      by_cases e : k = 0
      · rw [e, show r + 4 * ((0 : Nat) : Int) = r by omega]; exact c
      · have := ih (r + 4) (fun k' hk' => by
          have := h1 (k' + 1) (by omega)
          rw [show r + 4 * ((k' + 1 : Nat) : Int) + 1 = r + 4 + 4 * k' + 1 by omega] at this
          exact this) h2 (k - 1) (by omega)
        rw [show r + 4 + 4 * ((k - 1 : Nat) : Int) = r + 4 * k by omega] at this
        exact this
def stp (b q : Int → Int) (t e s pl : Int) (nw : Bool) : Int → Int := fun i => if i = t then s else if i = t + 1 then pl else if i = t + 2 then ln b s else if nw = true ∧ e ≤ i ∧ i < e + ln b s then b (da b s + (i - e)) else q i
def plT (b : Int → Int) (m : Nat) : Int := 8 + 4 * (cnt (pre b) m : Int)
def plF (b q : Int → Int) (m : Nat) : Int := fdz b q (da b (m : Int)) (ln b (m : Int)) (cnt (pre b) m) 8
/-- the end and the bytes when the signatures up to m are laid -/
def plE (b : Int → Int) : Nat → Int × (Int → Int)
  | 0 => (8 + 4 * b 6, fun i => if 2 ≤ i ∧ i < 8 then b i else 0)
  | m + 1 => if en b ((m + 1 : Nat) : Int) < 0 then plE b m else if plF b (plE b m).2 (m + 1) = 0 then (((plE b m).1 + ln b ((m + 1 : Nat) : Int) + 3) / 4 * 4, stp b (plE b m).2 (plT b (m + 1)) (plE b m).1 ((m + 1 : Nat) : Int) (plE b m).1 true) else ((plE b m).1, stp b (plE b m).2 (plT b (m + 1)) (plE b m).1 ((m + 1 : Nat) : Int) (plF b (plE b m).2 (m + 1)) false)
def cov (b : Int → Int) : Nat → Nat → Bool
  | 0, _ => false
  | m + 1, i => cov b m i || decide (0 ≤ en b ((m + 1 : Nat) : Int) ∧ da b ((m + 1 : Nat) : Int) ≤ 4 * (i : Int) ∧ 4 * (i : Int) < da b ((m + 1 : Nat) : Int) + ln b ((m + 1 : Nat) : Int))
theorem cov_i (b : Int → Int) : ∀ (m i : Nat), cov b m i = true ↔ ∃ s : Nat, 1 ≤ s ∧ s ≤ m ∧ 0 ≤ en b (s : Int) ∧ da b (s : Int) ≤ 4 * (i : Int) ∧ 4 * (i : Int) < da b (s : Int) + ln b (s : Int) := by
  intro m
  induction m with
  | zero =>
    intro i
    exact ⟨fun h => (by cases h), fun ⟨s, h1, h2, _⟩ => absurd h2 (by omega)⟩
  | succ m ih =>
    intro i
    unfold cov
    rw [Bool.or_eq_true, decide_eq_true_iff, ih]
    constructor
    · rintro (⟨s, h1, h2, h3⟩ | h)
      · exact ⟨s, h1, by omega, h3⟩
      · exact ⟨m + 1, by omega, by omega, h⟩
    · rintro ⟨s, h1, h2, h3⟩
      by_cases e : s = m + 1
      · exact Or.inr (e ▸ h3)
      · exact Or.inl ⟨s, h1, by omega, h3⟩
/-- entry and data of signature s in the bytes q, whose end is e -/
def QS (b q : Int → Int) (e : Int) (s : Nat) : Prop := q (plT b s) = s ∧ q (plT b s + 2) = ln b s ∧ 8 + 4 * b 6 ≤ q (plT b s + 1) ∧ q (plT b s + 1) + ln b s ≤ e ∧ ∀ j, 0 ≤ j → j < ln b s → q (q (plT b s + 1) + j) = b (da b s + j)
def QI (b : Int → Int) (n : Int) (m : Nat) (e : Int) (q : Int → Int) : Prop := (e % 4 = 0 ∧ 8 + 4 * b 6 ≤ e ∧ e ≤ n) ∧ Byt q ∧ (∀ i, 2 ≤ i → i < 8 → q i = b i) ∧ e ≤ 8 + 4 * b 6 + 4 * (cnt (cov b m) 64 : Int) ∧ ∀ s : Nat, 1 ≤ s → s ≤ m → 0 ≤ en b (s : Int) → QS b q e s
section PLN
variable {b : Int → Int} {n : Int}
theorem pre_0 (h : OKB b n) : pre b 0 = false := by
  rw [← Bool.not_eq_true, pre_i]
  intro q
  have := (ok_s h q).1
  omega
theorem plT_le (h : OKB b n) {s m : Nat} (hs : s < m) (hp : 0 ≤ en b (s : Int)) : plT b s + 4 ≤ plT b m := by
  have := cnt_inj hs (pre_i.mpr hp)
  unfold plT
  omega
theorem plT_6 (h : OKB b n) {s : Nat} (hs : s ≤ 12) (hp : 0 ≤ en b (s : Int)) : 8 ≤ plT b s ∧ plT b s + 4 ≤ 8 + 4 * b 6 := by
  have h6 := h.2.2.2.2.2.1
  have h1 := cnt_inj (p := pre b) (s := s) (s' := 13) (by omega) (pre_i.mpr hp)
  rw [ok_cnt h] at h1
  unfold plT
  omega
theorem cov_le (h : OKB b n) (hn : n ≤ 256) (m : Nat) : 8 + 4 * b 6 + 4 * (cnt (cov b m) 64 : Int) ≤ n := by
  have h6 := h.2.2.2.2.2.1
  have h1 := h.1
  have h2 : cnt (cov b m) 64 ≤ cnt (fun i => decide ((2 + b 6).toNat ≤ i ∧ i < (2 + b 6).toNat + ((n / 4).toNat - (2 + b 6).toNat))) 64 := by
    apply cnt_le
    intro i hi q
    rw [cov_i] at q
    obtain ⟨s, -, -, s3, s4, s5⟩ := q
    have := ok_s h s3
    rw [decide_eq_true_iff]
    omega
  rw [cnt_int] at h2
  omega
theorem qi_fd (h : OKB b n) {m : Nat} (hm : m ≤ 12) {e : Int} {q : Int → Int} (hq : ∀ s : Nat, 1 ≤ s → s ≤ m → 0 ≤ en b (s : Int) → QS b q e s) : ∀ k : Nat, k < cnt (pre b) (m + 1) → ∃ s : Nat, 1 ≤ s ∧ s ≤ m ∧ 0 ≤ en b (s : Int) ∧ 8 + 4 * (k : Int) = plT b s ∧ QS b q e s := by
  intro k hk
  obtain ⟨s, s1, s2, s3⟩ := cnt_sur (m + 1) k hk
  have s0 : s ≠ 0 := fun c => by rw [c, pre_0 h] at s2; cases s2
  exact ⟨s, by omega, by omega, pre_i.mp s2, by unfold plT; omega, hq s (by omega) (by omega) (pre_i.mp s2)⟩
theorem stp_o {q : Int → Int} {t e s pl i : Int} {nw : Bool} (h1 : i < t ∨ t + 2 < i) (h2 : nw = true → i < e ∨ e + ln b s ≤ i) : stp b q t e s pl nw i = q i := by
  unfold stp
  rw [if_neg (by omega), if_neg (by omega), if_neg (by omega), if_neg]
  rintro ⟨c1, c2, c3⟩
  have := h2 c1
  omega
theorem qs_keep (h : OKB b n) {m : Nat} (hm : m + 1 ≤ 12) {e e' pl : Int} {q : Int → Int} {s : Nat} (hs : s ≤ m) (hp : 0 ≤ en b (s : Int)) (hp' : 0 ≤ en b ((m + 1 : Nat) : Int)) (hq : QS b q e s) (he : e ≤ e') (hl : 8 + 4 * b 6 ≤ e) (nw : Bool) : QS b (stp b q (plT b (m + 1)) e ((m + 1 : Nat) : Int) pl nw) e' s := by
  have t1 := plT_le h (s := s) (m := m + 1) (by omega) hp
  have t2 := plT_6 h (s := s) (by omega) hp
  have t3 := plT_6 h (s := m + 1) (by omega) hp'
  have l2 := (ok_s h hp).2.2.2.1
  obtain ⟨h1, h2, h3, h4, h5⟩ := hq
  have e1 : stp b q (plT b (m + 1)) e ((m + 1 : Nat) : Int) pl nw (plT b s + 1) = q (plT b s + 1) := stp_o (by omega) (fun _ => by omega)
  refine ⟨?_, ?_, ?_, ?_, ?_⟩
  · rw [stp_o (by omega) (fun _ => by omega)]; exact h1
  · rw [stp_o (by omega) (fun _ => by omega)]; exact h2
  · rw [e1]; exact h3
  · rw [e1]; omega
  · intro j j0 j1
    rw [e1, stp_o (by omega) (fun _ => by omega)]
    exact h5 j j0 j1
theorem stp_t {q : Int → Int} {t e s pl : Int} {nw : Bool} : stp b q t e s pl nw t = s ∧ stp b q t e s pl nw (t + 1) = pl ∧ stp b q t e s pl nw (t + 2) = ln b s := by
  unfold stp
  exact ⟨by rw [if_pos rfl], by rw [if_neg (by omega), if_pos rfl], by rw [if_neg (by omega), if_neg (by omega), if_pos rfl]⟩
theorem stp_R {q : Int → Int} {t e s pl : Int} {nw : Bool} (hb : Byt b) (hq : Byt q) (hs : 0 ≤ s ∧ s < 256) (hp : 0 ≤ pl ∧ pl < 256) : Byt (stp b q t e s pl nw) := by
  intro i
  unfold stp
  repeat' split
  · exact hs
  · exact hp
  · exact hb _
  · exact hb _
  · exact hq _
theorem qi_step (h : OKB b n) (hn : n ≤ 256) (hb : Byt b) (m : Nat) (hm : m < 12) (hq : QI b n m (plE b m).1 (plE b m).2) : QI b n (m + 1) (plE b (m + 1)).1 (plE b (m + 1)).2 := by
  have hcl := cov_le h hn (m + 1)
  have hcm : cnt (cov b m) 64 ≤ cnt (cov b (m + 1)) 64 := by
    apply cnt_le
    intro i _ c
    unfold cov
    rw [c, Bool.true_or]
  obtain ⟨e, he⟩ : ∃ e, (plE b m).1 = e := ⟨_, rfl⟩
  obtain ⟨q, hqq⟩ : ∃ q, (plE b m).2 = q := ⟨_, rfl⟩
  rw [plE, he, hqq]
  rw [he, hqq] at hq
  obtain ⟨⟨a1, a2, a3⟩, a4, a5, a6, a7⟩ := hq
  by_cases hp : en b ((m + 1 : Nat) : Int) < 0
  · rw [if_pos hp, he, hqq]
    refine ⟨⟨a1, a2, a3⟩, a4, a5, by omega, fun s s1 s2 s3 => ?_⟩
    by_cases c : s = m + 1
    · rw [c] at s3; omega
    · exact a7 s s1 (by omega) s3
  · have hp' : 0 ≤ en b ((m + 1 : Nat) : Int) := by omega
    obtain ⟨o1, o2, o3, o4, o5, -, -⟩ := ok_s h hp'
    have t3 := plT_6 h (s := m + 1) (by omega) hp'
    have hf := qi_fd h (m := m) (by omega) a7
    rw [if_neg hp]
    by_cases c : plF b q (m + 1) = 0
    · rw [if_pos c]
      change QI b n (m + 1) ((e + ln b ((m + 1 : Nat) : Int) + 3) / 4 * 4) (stp b q (plT b (m + 1)) e ((m + 1 : Nat) : Int) e true)
      have hno : ∀ s : Nat, 1 ≤ s → s ≤ m → 0 ≤ en b (s : Int) → ¬ (da b (s : Int) = da b ((m + 1 : Nat) : Int) ∧ ln b (s : Int) = ln b ((m + 1 : Nat) : Int)) := by
        intro s s1 s2 s3 ⟨d1, d2⟩
        have hk : cnt (pre b) s < cnt (pre b) (m + 1) := cnt_inj (by omega) (pre_i.mpr s3)
        obtain ⟨g1, g2, g3, g4, g5⟩ := a7 s s1 s2 s3
        have := fdz_n b q (da b ((m + 1 : Nat) : Int)) (ln b ((m + 1 : Nat) : Int)) (cnt (pre b) (m + 1)) 8 (fun k hk => by
          obtain ⟨s', -, -, -, u4, u5⟩ := hf k hk
          rw [u4]
          have := u5.2.2.1
          have h6 := h.2.2.2.2.2.1
          omega) c (cnt (pre b) s) hk
        apply this
        have et : (8 : Int) + 4 * (cnt (pre b) s : Int) = plT b s := rfl
        refine ⟨by rw [et, g2, d2], ?_⟩
        rw [eqB_i]
        intro j j0 j1
        show q (q (8 + 4 * (cnt (pre b) s : Int) + 1) + j) = b (da b ((m + 1 : Nat) : Int) + j)
        rw [et, g5 j j0 (by omega), d1]
      have hcc : cnt (cov b (m + 1)) 64 = cnt (cov b m) 64 + cnt (fun i => decide ((da b ((m + 1 : Nat) : Int) / 4).toNat ≤ i ∧ i < (da b ((m + 1 : Nat) : Int) / 4).toNat + ((ln b ((m + 1 : Nat) : Int) + 3) / 4).toNat)) 64 := by
        apply cnt_add
        · intro i hi
          show (cov b m i || decide (0 ≤ en b ((m + 1 : Nat) : Int) ∧ da b ((m + 1 : Nat) : Int) ≤ 4 * (i : Int) ∧ 4 * (i : Int) < da b ((m + 1 : Nat) : Int) + ln b ((m + 1 : Nat) : Int))) = _
          congr 1
          rw [decide_eq_decide]
          omega
        · intro i hi c1 c2
          rw [cov_i] at c1
          rw [decide_eq_true_iff] at c2
          obtain ⟨s, s1, s2, s3, s4, s5⟩ := c1
          apply hno s s1 s2 s3
          have := ok_ss h s3 hp'
          omega
      rw [cnt_int] at hcc
      have e2 : (e + ln b ((m + 1 : Nat) : Int) + 3) / 4 * 4 ≤ 8 + 4 * b 6 + 4 * (cnt (cov b (m + 1)) 64 : Int) := by omega
      refine ⟨⟨by omega, by omega, by omega⟩, stp_R hb a4 (by omega) (by omega), ?_, e2, ?_⟩
      · intro i i0 i1
        rw [stp_o (by omega) (fun _ => by omega)]
        exact a5 i i0 i1
      · intro s s1 s2 s3
        by_cases cs : s = m + 1
        · subst cs
          obtain ⟨u1, u2, u3⟩ := stp_t (b := b) (q := q) (t := plT b (m + 1)) (e := e) (s := ((m + 1 : Nat) : Int)) (pl := e) (nw := true)
          refine ⟨u1, u3, by rw [u2]; exact a2, by rw [u2]; omega, fun j j0 j1 => ?_⟩
          rw [u2]
          unfold stp
          rw [if_neg (by omega), if_neg (by omega), if_neg (by omega), if_pos ⟨rfl, by omega, by omega⟩]
          congr 1
          omega
        · exact qs_keep h (by omega) (by omega) s3 hp' (a7 s s1 (by omega) s3) (by omega) a2 true
    · rw [if_neg c]
      change QI b n (m + 1) e (stp b q (plT b (m + 1)) e ((m + 1 : Nat) : Int) (plF b q (m + 1)) false)
      rcases fdz_c b q (da b ((m + 1 : Nat) : Int)) (ln b ((m + 1 : Nat) : Int)) (cnt (pre b) (m + 1)) 8 with c0 | ⟨k, k1, ⟨k2, k3⟩, k4⟩
      · exact absurd c0 c
      · obtain ⟨s', v1, v2, v3, v4, g1, g2, g3, g4, g5⟩ := hf k k1
        change plF b q (m + 1) = _ at k4
        rw [v4] at k2 k3 k4
        rw [k4]
        rw [g2] at k2
        rw [eqB_i] at k3
        have l2 := (ok_s h v3).2.2.2.1
        have h6 := h.2.2.2.2.2.1
        refine ⟨⟨a1, a2, a3⟩, stp_R hb a4 (by omega) (by omega), ?_, by omega, ?_⟩
        · intro i i0 i1
          rw [stp_o (by omega) (fun w => by cases w)]
          exact a5 i i0 i1
        · intro s s1 s2 s3
          by_cases cs : s = m + 1
          · subst cs
            obtain ⟨u1, u2, u3⟩ := stp_t (b := b) (q := q) (t := plT b (m + 1)) (e := e) (s := ((m + 1 : Nat) : Int)) (pl := q (plT b s' + 1)) (nw := false)
            refine ⟨u1, u3, by rw [u2]; exact g3, by rw [u2]; omega, fun j j0 j1 => ?_⟩
            rw [u2, stp_o (by omega) (fun w => by cases w)]
            exact k3 j j0 (by omega)
          · exact qs_keep h (by omega) (by omega) s3 hp' (a7 s s1 (by omega) s3) (by omega) a2 false
theorem qi_all (h : OKB b n) (hn : n ≤ 256) (hb : Byt b) : ∀ m : Nat, m ≤ 12 → QI b n m (plE b m).1 (plE b m).2 := by
  have h6 := h.2.2.2.2.2.1
  intro m
  induction m with
  | zero =>
    intro _
    have := cov_le h hn 0
    unfold plE
    refine ⟨⟨by omega, by omega, by omega⟩, fun i => ?_, fun i i0 i1 => if_pos ⟨i0, i1⟩, by omega, fun s s1 s2 => by omega⟩
    show 0 ≤ (if 2 ≤ i ∧ i < 8 then b i else 0) ∧ (if 2 ≤ i ∧ i < 8 then b i else 0) < 256
    split
    · exact hb i
    · omega
  | succ m ih =>
    intro hm
    exact qi_step h hn hb m (by omega) (ih (by omega))
end PLN
