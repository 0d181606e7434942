/-! What a profile without fault gives its pieces; the plain form's data. -/
section OKW
variable {b : Int → Int} {n : Nat}
theorem ok_EC (h : OKB b n) (hn : n ≤ 256) (hb : Byt b) {s : Int} (s1 : s ≤ 4) (hp : 0 ≤ en b s) : EC b (da b s) ∧ ln b s = 2 + 2 * cn b (da b s) := by
  obtain ⟨o1, o2, o3, o4, o5, o6, o7⟩ := ok_s h hp
  have h6 := h.2.2.2.2.2.1
  obtain ⟨o, eo⟩ : ∃ o, da b s = o := ⟨_, rfl⟩
  rw [eo] at o2 o3 o5 o6 o7 ⊢
  have q1 := hb (o + 1)
  unfold fit at o6
  unfold lok at o7
  have hw : ∀ i, 0 ≤ cw b o i ∧ cw b o i ≤ 65535 := fun i => by
    have y1 := hb (o + 2 + 2 * i)
    have y2 := hb (o + 2 + 2 * i + 1)
    unfold cw wz
    omega
  have ht : b o = 1 ∨ b o = 2 := by omega
  unfold EC CD
  rcases ht with c | c
  · have eg : cg b o = 0 := by unfold cg; rw [if_pos c]
    have ew : cn b o = b (o + 1) := by unfold cn; rw [if_pos c]
    rw [eg, ew]
    refine ⟨⟨by omega, Or.inl c, ⟨by omega, by omega, fun w => by omega, fun _ => by omega, fun i _ _ => hw i⟩, by omega⟩, by omega⟩
  · have eg : cg b o = b (o + 1) := by unfold cg; rw [if_neg (by omega)]
    have ew : cn b o = 2 := by unfold cn; rw [if_neg (by omega)]
    rw [eg, ew]
    refine ⟨⟨by omega, Or.inr ⟨c, by omega⟩, ⟨by omega, by omega, fun w => rfl, fun _ => by omega, fun i _ _ => hw i⟩, by omega⟩, by omega⟩
theorem ok_EM (h : OKB b n) (hn : n ≤ 256) (hp : 0 ≤ en b 5) : EM b (da b 5) ∧ ln b 5 = 20 := by
  obtain ⟨o1, o2, o3, o4, o5, o6, o7⟩ := ok_s h hp
  have h6 := h.2.2.2.2.2.1
  unfold fit at o6
  unfold lok at o7
  unfold EM
  omega
theorem ok_EG (h : OKB b n) (hn : n ≤ 256) {s : Int} (s0 : 6 ≤ s) (s1 : s ≤ 11) (hp : 0 ≤ en b s) : EG b (da b s) ∧ ln b s = 2 + 3 * (b (da b s + 1) * b (da b s + 1) * b (da b s + 1)) := by
  obtain ⟨o1, o2, o3, o4, o5, o6, o7⟩ := ok_s h hp
  have h6 := h.2.2.2.2.2.1
  unfold fit at o6
  unfold lok at o7
  have c : (b (da b s + 1) = 2 ∧ ln b s = 26) ∨ (b (da b s + 1) = 3 ∧ ln b s = 83) := by omega
  unfold EG
  rcases c with ⟨c1, c2⟩ | ⟨c1, c2⟩
  · rw [c1, c2]
    exact ⟨⟨by omega, Or.inl rfl, by omega⟩, rfl⟩
  · rw [c1, c2]
    exact ⟨⟨by omega, Or.inr rfl, by omega⟩, rfl⟩
theorem ok_wh (h : OKB b n) (hp : 0 ≤ en b 12) : ln b 12 = 8 := by
  obtain ⟨o1, o2, o3, o4, o5, o6, o7⟩ := ok_s h hp
  unfold fit at o6
  unfold lok at o7
  omega
theorem ok_WB (h : OKB b n) (hn : n ≤ 256) (hb : Byt b) : WB b := by
  have h6 := h.2.2.2.2.2.1
  have hw := h.2.2.2.2.2.2.2.2
  refine ⟨hb, h.2.1, h.2.2.1, h.2.2.2.1, ⟨h6.1, h6.2.1⟩, fun s s0 s1 hp => (ok_EC h hn hb s1 hp).1, fun hp => (ok_EM h hn hp).1, fun s s0 s1 hp => (ok_EG h hn s0 s1 hp).1, fun hp => ?_, fun c => ?_, fun c => ?_⟩
  · have := ok_s h hp
    have := ok_wh h hp
    omega
  · unfold wyz at hw
    rw [if_pos c, ok_en h] at hw
    exact hw
  · unfold wyz at hw
    rw [if_neg (by omega), Bool.or_eq_true, Bool.and_eq_true, Bool.and_eq_true, Bool.and_eq_true, Bool.and_eq_true, ok_en h, ok_en h, ok_en h, ok_en h, ok_en h, decide_eq_true_iff] at hw
    rcases hw with w | ⟨w1, w2, w3, w4, w5⟩
    · exact Or.inl w
    · exact Or.inr ⟨w2, w3, w4, w5, w1⟩
/-- where the plain form has the data of s -/
def pld (b : Int → Int) (s : Nat) : Int := plq b (plT b s + 1)
def ofs (b : Int → Int) (s : Nat) : Int := if 0 ≤ en b (s : Int) then pld b s else 0
theorem plq_2 {i : Int} (hi : 2 ≤ i) : plq b i = (plE b 12).2 i := by
  unfold plq
  rw [if_neg (by omega), if_neg (by omega)]
theorem pd_ok (h : OKB b n) (hn : n ≤ 256) (hb : Byt b) {s : Nat} (hp : 0 ≤ en b (s : Int)) : plq b (plT b s) = s ∧ 8 ≤ pld b s ∧ pld b s + ln b s ≤ pln b ∧ ∀ j, 0 ≤ j → j < ln b s → plq b (pld b s + j) = b (da b s + j) := by
  have h6 := h.2.2.2.2.2.1
  have o1 := (ok_s h hp).1
  have Q := qi_all h (by omega) hb 12 (by omega)
  have hN := pl_n h hn hb
  have t6 := plT_6 h (s := s) (by omega) hp
  obtain ⟨g1, g2, g3, g4, g5⟩ := Q.2.2.2.2 s (by omega) (by omega) hp
  unfold pld
  rw [plq_2 (by omega), plq_2 (by omega)]
  refine ⟨g1, by omega, by omega, fun j j0 j1 => ?_⟩
  rw [plq_2 (by omega)]
  exact g5 j j0 j1
theorem pd_w (h : OKB b n) (hn : n ≤ 256) (hb : Byt b) {s : Nat} (hp : 0 ≤ en b (s : Int)) {i : Int} (i0 : 0 ≤ i) (i1 : i + 1 < ln b s) : wz (plq b) (pld b s + i) = wz b (da b s + i) := by
  obtain ⟨-, -, -, g⟩ := pd_ok h hn hb hp
  unfold wz
  rw [g i i0 (by omega), Int.add_assoc, g (i + 1) (by omega) i1, Int.add_assoc]
theorem ofs_0 (h : OKB b n) (hn : n ≤ 256) (hb : Byt b) (s : Nat) : ofs b s = 0 ↔ en b (s : Int) < 0 := by
  unfold ofs
  by_cases c : 0 ≤ en b (s : Int)
  · have := (pd_ok h hn hb c).2.1
    rw [if_pos c]
    omega
  · rw [if_neg c]
    omega
theorem ofs_R (h : OKB b n) (hn : n ≤ 256) (hb : Byt b) (s : Nat) : 0 ≤ ofs b s ∧ ofs b s < 256 := by
  unfold ofs pld
  split
  · exact plq_R h hn hb _
  · omega
theorem plq_h (h : OKB b n) (hn : n ≤ 256) (hb : Byt b) {i : Int} (i0 : 2 ≤ i) (i1 : i < 8) : plq b i = b i := by
  rw [plq_2 i0]
  exact (qi_all h (by omega) hb 12 (by omega)).2.2.1 i i0 i1
end OKW
section ST1
variable {b : Int → Int} {n : Nat} {P pl Z : Nat}
/-- the profile being made -/
def POb (μ : mM) (P pl Z : Nat) (el : Int) (cf ef bb cb : Option Nat) : Prop := μ P = some (.inr (9, [.ref pl, .int (iz el), .ref Z, .ref (Z + 1), .ref (Z + 2), va_rf cf, va_rf ef, va_rf bb, va_rf cb, .ref (Z + 3), .ref (Z + 4)]))
theorem pob_e {μ : mM} {el : Int} {cf ef bb cb : Option Nat} (h : POb μ P pl Z el cf ef bb cb) : mfA μ (some P) [9] 2 = some (some Z) ∧ mfA μ (some P) [9] 3 = some (some (Z + 1)) ∧ mfA μ (some P) [9] 4 = some (some (Z + 2)) ∧ mfA μ (some P) [9] 9 = some (some (Z + 3)) ∧ mfA μ (some P) [9] 10 = some (some (Z + 4)) := ⟨mfA_i (v := some Z) h rfl rfl, mfA_i (v := some (Z + 1)) h rfl rfl, mfA_i (v := some (Z + 2)) h rfl rfl, mfA_i (v := some (Z + 3)) h rfl rfl, mfA_i (v := some (Z + 4)) h rfl rfl⟩
def OFA (μ : mM) (Z : Nat) (b : Int → Int) : Prop := ∃ f : Nat → Int32, μ Z = some (.inl (0, 13, .inl f)) ∧ ∀ s : Nat, s < 13 → f s = iz (ofs b s)
theorem ofa_g {μ : mM} (h : OFA μ Z b) {s : Int} (s0 : 0 ≤ s) (s1 : s < 13) : mgI μ (some Z) (iz s) = some (iz (ofs b s.toNat)) := by
  obtain ⟨f, h1, h2⟩ := h
  rw [iz_nat s0, mgI_i h1 (by omega) (by decide), h2 _ (by omega)]
theorem pf_55 (h : OKB b n) (hn : n ≤ 256) (hb : Byt b) {el : Int} {cf ef bb cb : Option Nat} (hPZ : P ≠ Z) (hpZ : pl ≠ Z) (kx : mM → Nat → Nat → Option Nat → Option (mM × Nat × Nat)) {zz ww : Nat} : ∀ (m fu k : Nat) (μ : mM), m < fu → (k : Int) + m = b 6 → POb μ P pl Z el cf ef bb cb → PLR μ pl (pln b) (plq b) → (∃ f : Nat → Int32, μ Z = some (.inl (0, 13, .inl f)) ∧ ∀ s : Nat, s < 13 → f s = iz (if 0 ≤ en b (s : Int) ∧ cnt (pre b) s < k then pld b s else 0)) → ∃ μ', f_Profile_init_55 P kx fu μ zz ww (some pl) (iz k) = kx μ' zz ww (some pl) ∧ OFA μ' Z b ∧ ∀ c, c ≠ Z → μ' c = μ c := by
  have h6 := h.2.2.2.2.2.1
  have hN := pl_n h hn hb
  have q6 := plq_h h hn hb (i := 6) (by omega) (by omega)
  have hQ1 := (qi_all h (by omega) hb 12 (by omega)).1
  intro m
  induction m with
  | zero =>
    intro fu k μ hf hm hP hpl hF
    obtain ⟨fu, rfl⟩ : ∃ m, fu = m + 1 := ⟨fu - 1, by omega⟩
    obtain ⟨f, f1, f2⟩ := hF
    refine ⟨μ, ?_, ⟨f, f1, fun s hs => ?_⟩, fun _ _ => rfl⟩
    · rw [f_Profile_init_55, zi_6, plr_g hpl (by omega) (by omega) (by omega), Option.bind_some, q6, qle (iR_s (by omega) (by omega)) (iR_s (by omega) (by omega)), if_pos (by omega)]
    · rw [f2 s hs]
      unfold ofs
      by_cases c : 0 ≤ en b (s : Int)
      · have w := cnt_inj (p := pre b) (s := s) (s' := 13) hs (pre_i.mpr c)
        rw [ok_cnt h] at w
        rw [if_pos ⟨c, by omega⟩, if_pos c]
      · rw [if_neg (fun w => c w.1), if_neg c]
  | succ m ih =>
    intro fu k μ hf hm hP hpl hF
    obtain ⟨fu, rfl⟩ : ∃ m, fu = m + 1 := ⟨fu - 1, by omega⟩
    obtain ⟨f, f1, f2⟩ := hF
    have hk13 : k < cnt (pre b) 13 := by rw [ok_cnt h]; omega
    obtain ⟨s, s1, s2, s3⟩ := cnt_sur 13 k hk13
    have hp := pre_i.mp s2
    obtain ⟨d1, d2, d3, d4⟩ := pd_ok h hn hb hp
    have eT : plT b s = 8 + 4 * (k : Int) := by unfold plT; omega
    have R := plq_R h hn hb
    have e9 : plq b (9 + 4 * (k : Int)) = pld b s := by
      unfold pld
      rw [eT]
      congr 1
      omega
    have e8 : plq b (8 + 4 * (k : Int)) = s := by rw [← eT]; exact d1
    have s1' : msI μ (some Z) (nI s) (iz (pld b s)) = some (mup μ Z (.inl (0, 13, .inl (upd f s (iz (pld b s)))))) := msI_i f1 s1 (by decide)
    obtain ⟨m2, r1, r2, r3⟩ := ih fu (k + 1) (mup μ Z (.inl (0, 13, .inl (upd f s (iz (pld b s)))))) (by omega) (by omega) ((mup_ne _ _ hPZ).trans hP) (plr_o hpl (mup_ne _ _ hpZ)) ⟨_, mup_self _ _ _, fun s' hs' => by
      unfold upd
      by_cases c : s' = s
      · rw [if_pos c, c, if_pos ⟨hp, by omega⟩]
      · rw [if_neg c, f2 s' hs']
        by_cases c2 : 0 ≤ en b (s' : Int) ∧ cnt (pre b) s' < k
        · rw [if_pos c2, if_pos ⟨c2.1, by omega⟩]
        · rw [if_neg c2, if_neg]
          rintro ⟨w1, w2⟩
          apply c2
          refine ⟨w1, ?_⟩
          have w3 := pre_i.mpr w1
          by_cases c3 : s' < s
          · have := cnt_inj (p := pre b) c3 w3
            omega
          · have := cnt_inj (p := pre b) (s := s) (s' := s') (by omega) s2
            omega⟩
    refine ⟨m2, ?_, r2, fun c hc => (r3 c hc).trans (mup_ne _ _ hc)⟩
    rw [f_Profile_init_55, zi_6, plr_g hpl (by omega) (by omega) (by omega), Option.bind_some, q6, qle (iR_s (by omega) (by omega)) (iR_s (by omega) (by omega)), if_neg (by omega), (pob_e hP).1, Option.bind_some, zi_8, zi_4, iz_mul, iz_add, plr_g hpl (by omega) (by omega) (by omega), Option.bind_some, zi_9, iz_add, plr_g hpl (by omega) (by omega) (by omega), Option.bind_some, e8, e9, ← nI_iz s, s1', Option.bind_some, zi_1, iz_add]
    exact r1
end ST1
