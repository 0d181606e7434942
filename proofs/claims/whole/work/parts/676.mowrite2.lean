/-! The reference's write, whole. -/
section WRU
variable {M : Nat} {A : Nat → Nat → Int32} {S : Nat → Int32} {L : Nat → Int64}
theorem stp_zu {b q q3 : Int → Int} {t e s pl : Int} {nw : Bool} (h : ∀ i, 2 ≤ i → i < 256 → q3 i = if nw = true ∧ e ≤ i ∧ i < e + ln b s then b (da b s + (i - e)) else zu (zu (zu q t s) (t + 1) pl) (t + 2) (ln b s) i) (ht : t + 2 < e) : ∀ i, 2 ≤ i → i < 256 → q3 i = stp b q t e s pl nw i := by
  intro i i0 i1
  rw [h i i0 i1]
  unfold stp zu
  by_cases c1 : i = t
  · rw [if_neg (by omega), if_neg (by omega), if_neg (by omega), if_pos c1, if_pos c1]
  · by_cases c2 : i = t + 1
    · rw [if_neg (by omega), if_neg (by omega), if_pos c2, if_neg c1, if_pos c2]
    · by_cases c3 : i = t + 2
      · rw [if_neg (by omega), if_pos c3, if_neg c1, if_neg c2, if_pos c3]
      · rw [if_neg c3, if_neg c2, if_neg c1, if_neg c1, if_neg c2, if_neg c3]
theorem rm_wL (hk : KA A) {p : Int} (hp : 0 ≤ p) (hp6 : p < 6) {n : Nat} (hn : n ≤ 256) {b : Int → Int} (eb : bp (kp A) p = b) (hb : Byt b) (hO : OKB b n) (kx : mM → Int32 → Option (Int32 × mM)) : ∀ (j fu m : Nat) (μ : mM), j < fu → m + j = 12 → RW μ M A S L (plE b m).2 → ∃ μ', f_Mo_write_74 M kx fu μ (iz p) (iz (plT b (m + 1))) (iz (plE b m).1) (iz ((m : Int) + 1)) = kx μ' (iz (plE b 12).1) ∧ RW μ' M A S L (plE b 12).2 ∧ Out M μ μ' := by
  have h6 := hO.2.2.2.2.2.1
  intro j
  induction j with
  | zero =>
    intro fu m μ hf hm h
    obtain ⟨fu, rfl⟩ : ∃ m, fu = m + 1 := ⟨fu - 1, by omega⟩
    obtain rfl : m = 12 := by omega
    refine ⟨μ, ?_, h, Out.rf⟩
    rw [f_Mo_write_74, zi_12, qlt (iR_s (by omega) (by omega)) (iR_s (by omega) (by omega)), if_pos (by omega)]
  | succ j ih =>
    intro fu m μ hf hm h
    obtain ⟨fu, rfl⟩ : ∃ m, fu = m + 1 := ⟨fu - 1, by omega⟩
    have hQ := qi_all hO (by omega) hb m (by omega)
    have hQ' := qi_all hO (by omega) hb (m + 1) (by omega)
    have ep : plE b (m + 1) = if en b ((m + 1 : Nat) : Int) < 0 then plE b m else if plF b (plE b m).2 (m + 1) = 0 then (((plE b m).1 + ln b ((m + 1 : Nat) : Int) + 3) / 4 * 4, stp b (plE b m).2 (plT b (m + 1)) (plE b m).1 ((m + 1 : Nat) : Int) (plE b m).1 true) else ((plE b m).1, stp b (plE b m).2 (plT b (m + 1)) (plE b m).1 ((m + 1 : Nat) : Int) (plF b (plE b m).2 (m + 1)) false) := rfl
    obtain ⟨e, he⟩ : ∃ e, (plE b m).1 = e := ⟨_, rfl⟩
    obtain ⟨q, hqq⟩ : ∃ q, (plE b m).2 = q := ⟨_, rfl⟩
    rw [he, hqq] at hQ ep
    rw [hqq] at h
    rw [he]
    obtain ⟨⟨a1, a2, a3⟩, a4, a5, a6, a7⟩ := hQ
    have kr := rw_K h hk
    have em : (m : Int) + 1 = ((m + 1 : Nat) : Int) := by omega
    have et := plT_s (b := b) (m := m + 1)
    have een := km_entry kr hp hp6 (s := ((m + 1 : Nat) : Int)) (iR_s (by omega) (by omega)) (by rw [eb]; omega)
    rw [eb] at een
    rw [f_Mo_write_74, zi_12, qlt (iR_s (by omega) (by omega)) (iR_s (by omega) (by omega)), if_neg (by omega), em, kr.1, Option.bind_some, een, Option.bind_some, zi_0]
    have eR : en b ((m + 1 : Nat) : Int) = -1 ∨ (8 ≤ en b ((m + 1 : Nat) : Int) ∧ en b ((m + 1 : Nat) : Int) ≤ 52) := by
      rcases en_R (b := b) (s := ((m + 1 : Nat) : Int)) (by omega) with w | ⟨k, k0, k1, k2, k3⟩
      · exact Or.inl w
      · exact Or.inr (by omega)
    rw [qle (iR_s (by omega) (by omega)) (iR_s (by omega) (by omega))]
    by_cases c : en b ((m + 1 : Nat) : Int) < 0
    · rw [if_neg (show ¬ 0 ≤ en b ((m + 1 : Nat) : Int) by omega)] at et
      rw [if_pos (show en b ((m + 1 : Nat) : Int) ≤ 0 by omega)]
      rw [if_pos c] at ep
      obtain ⟨m2, s2, p2, o2⟩ := ih fu (m + 1) μ (by omega) (by omega) (by rw [ep, hqq]; exact h)
      refine ⟨m2, ?_, p2, o2⟩
      unfold f_Mo_write_228
      rw [← s2, ep, he, zi_1, iz_add, et, Int.add_zero]
    · have hp' : 0 ≤ en b ((m + 1 : Nat) : Int) := by omega
      obtain ⟨o1, o2, o3, o4, o5, -, -⟩ := ok_s hO hp'
      have t3 := plT_6 hO (s := m + 1) (by omega) hp'
      have hf' := qi_fd hO (m := m) (by omega) a7
      rw [if_pos hp'] at et
      rw [if_neg c] at ep
      have ll := hb (en b ((m + 1 : Nat) : Int) + 2)
      change 0 ≤ ln b ((m + 1 : Nat) : Int) ∧ ln b ((m + 1 : Nat) : Int) < 256 at ll
      have ed : b (en b ((m + 1 : Nat) : Int) + 1) = da b ((m + 1 : Nat) : Int) := by
        unfold da
        rw [if_neg c]
      have eln : b (en b ((m + 1 : Nat) : Int) + 2) = ln b ((m + 1 : Nat) : Int) := rfl
      have ewr : f_Mo_written μ M (iz p) (iz (en b ((m + 1 : Nat) : Int))) (iz (plT b (m + 1))) = some (iz (if plF b q (m + 1) = 0 then -1 else plF b q (m + 1))) := by
        unfold f_Mo_written
        rw [zi_8]
        have w := rm_wrL h hk hp hp6 hn (by rw [eb]; exact hO) a4 (s := ((m + 1 : Nat) : Int)) (by rw [eb]; exact hp') (e := e) (cnt (pre b) (m + 1)) 4096 8 (plT b (m + 1)) (by have : plT b (m + 1) = 8 + 4 * (cnt (pre b) (m + 1) : Int) := rfl; omega) (by omega) rfl (by omega) (fun k hk' => by
          obtain ⟨s', v1, v2, v3, v4, v5⟩ := hf' k hk'
          rw [eb]
          exact ⟨s', v3, v4, v5⟩)
        rw [eb] at w
        exact w
      have ept := km_part kr hp hp6 (a := en b ((m + 1 : Nat) : Int) + 2) (by omega) (by omega)
      rw [eb, eln] at ept
      have hpF : 0 ≤ plF b q (m + 1) ∧ plF b q (m + 1) < 256 := by
        by_cases cF : plF b q (m + 1) = 0
        · omega
        · have w := hQ'.2.1 (plT b (m + 1) + 1)
          rw [if_neg cF] at ep
          rw [ep] at w
          change 0 ≤ stp b q (plT b (m + 1)) e ((m + 1 : Nat) : Int) (plF b q (m + 1)) false (plT b (m + 1) + 1) ∧ stp b q (plT b (m + 1)) e ((m + 1 : Nat) : Int) (plF b q (m + 1)) false (plT b (m + 1) + 1) < 256 at w
          rw [stp_t.2.1] at w
          exact w
      obtain ⟨m1, s1, r1, x1⟩ := rw_s h (i := plT b (m + 1)) (by omega) (by omega) ((m + 1 : Nat) : Int)
      rw [if_neg (show ¬ en b ((m + 1 : Nat) : Int) ≤ 0 by omega), Option.bind_some, ewr, Option.bind_some, Option.bind_some, zi_2, iz_add, ept, Option.bind_some, (rw_rc h).2, Option.bind_some, s1, Option.bind_some, (rw_rc r1).2, Option.bind_some, zi_1, iz_add]
      by_cases cF : plF b q (m + 1) = 0
      · rw [if_pos cF] at ep
        have ep1 : (plE b (m + 1)).1 = (e + ln b ((m + 1 : Nat) : Int) + 3) / 4 * 4 := by rw [ep]
        have ep2 : (plE b (m + 1)).2 = stp b q (plT b (m + 1)) e ((m + 1 : Nat) : Int) e true := by rw [ep]
        have hQ1 := hQ'.1.2.2
        rw [ep1] at hQ1
        rw [if_pos cF, qle (iR_s (by omega) (by omega)) (iR_s (by omega) (by omega)), if_neg (by omega)]
        obtain ⟨m2, s2, r2, x2⟩ := rw_s r1 (i := plT b (m + 1) + 1) (by omega) (by omega) e
        obtain ⟨m3, s3, r3, x3⟩ := rw_s r2 (i := plT b (m + 1) + 2) (by omega) (by omega) (ln b ((m + 1 : Nat) : Int))
        obtain ⟨m4, s4, r4, x4⟩ := rm_cpL (M := M) (S := S) (L := L) hk hp hp6 (fun μ y1 y3 y4 y5 y7 y8 => f_Mo_write_202 M (f_Mo_write_74 M kx fu) kx μ y1 y3 y4 y5 y7 y8) (x3 := iz (plT b (m + 1))) (x5 := iz ((m + 1 : Nat) : Int)) (e := e) (l := ln b ((m + 1 : Nat) : Int)) (o := da b ((m + 1 : Nat) : Int)) (en' := en b ((m + 1 : Nat) : Int)) (by omega) (by omega) (by omega) (by omega) (by omega) (by rw [eb]; exact ed) (ln b ((m + 1 : Nat) : Int)).toNat 4096 0 m3 _ (by omega) (by omega) (by omega) r3
        obtain ⟨m5, s5, r5, x5⟩ := ih fu (m + 1) m4 (by omega) (by omega) (by
          rw [ep2]
          refine rw_x r4 (stp_zu (fun i i0 i1 => ?_) (by omega))
          rw [eb]
          by_cases c4 : e ≤ i ∧ i < e + ln b ((m + 1 : Nat) : Int)
          · rw [if_pos (by omega), if_pos ⟨rfl, c4⟩]
          · rw [if_neg (by omega), if_neg (fun w => c4 w.2)])
        refine ⟨m5, ?_, r5, ((((x1.tr x2).tr x3).tr x4).tr x5)⟩
        unfold f_Mo_write_143
        rw [s2, Option.bind_some, (rw_rc r2).2, Option.bind_some, zi_2, iz_add, s3, Option.bind_some, zi_0, s4]
        unfold f_Mo_write_202 f_Mo_write_223 f_Mo_write_228
        rw [zi_0, qle (iR_s (by omega) (by omega)) (iR_s (by omega) (by omega)), if_neg (by omega), zi_3, zi_4, iz_add, iz_add, iz_add, iz_div (iR_s (by omega) (by omega)) (iR_s (by omega) (by omega)) (by omega), iz_mul, Int.tdiv_eq_ediv_of_nonneg (by omega), zi_1, iz_add, ← s5, ep1, et]
      · rw [if_neg cF] at ep
        have ep1 : (plE b (m + 1)).1 = e := by rw [ep]
        have ep2 : (plE b (m + 1)).2 = stp b q (plT b (m + 1)) e ((m + 1 : Nat) : Int) (plF b q (m + 1)) false := by rw [ep]
        rw [if_neg cF, qle (iR_s (by omega) (by omega)) (iR_s (by omega) (by omega)), if_pos hpF.1]
        obtain ⟨m2, s2, r2, x2⟩ := rw_s r1 (i := plT b (m + 1) + 1) (by omega) (by omega) (plF b q (m + 1))
        obtain ⟨m3, s3, r3, x3⟩ := rw_s r2 (i := plT b (m + 1) + 2) (by omega) (by omega) (ln b ((m + 1 : Nat) : Int))
        obtain ⟨m5, s5, r5, x5⟩ := ih fu (m + 1) m3 (by omega) (by omega) (by
          rw [ep2]
          refine rw_x r3 (stp_zu (fun i i0 i1 => ?_) (by omega))
          rw [if_neg (fun w => by cases w.1)])
        refine ⟨m5, ?_, r5, (((x1.tr x2).tr x3).tr x5)⟩
        unfold f_Mo_write_143
        rw [s2, Option.bind_some, (rw_rc r2).2, Option.bind_some, zi_2, iz_add, s3, Option.bind_some, zi_0]
        rw [show (4096 : Nat) = 4095 + 1 by rfl, f_Mo_write_157]
        unfold f_Mo_write_202 f_Mo_write_223 f_Mo_write_228
        rw [qle (a := ln b ((m + 1 : Nat) : Int)) (iR_s (by omega) (by omega)) (iR_s (by omega) (by omega)), if_neg (by omega), zi_0, qle (iR_s (by omega) (by omega)) (iR_s (by omega) (by omega)), if_pos hpF.1, if_pos ((iz_le (iR_s (by omega) (by omega)) (iR_s (by omega) (by omega))).mpr hpF.1), zi_4, iz_add, zi_1, iz_add, ← s5, ep1, et]
theorem rm_write {μ : mM} {np : Nat} (h : RB μ M A S L) (hk : KA A) (hS3 : S 3 = nI np) (hnp : np ≤ 6) (hO : ∀ p : Nat, p < np → ∃ n : Nat, n ≤ 256 ∧ OKB (bp (kp A) p) n) {p : Int} (ip : iR p) : (¬ (0 ≤ p ∧ p < np) → f_Mo_write M μ (iz p) = some (iz (-1), μ)) ∧ ((0 ≤ p ∧ p < np) → ∃ μ' A' S', f_Mo_write M μ (iz p) = some (nI (pln (bp (kp A) p)), μ') ∧ RB μ' M A' S' L ∧ BA A' S' (pln (bp (kp A) p)) (plq (bp (kp A) p)) ∧ sX A' A ∧ sY S' S ∧ Out M μ μ') := by
  unfold f_Mo_write
  rw [rb_there h hS3 hnp ip, Option.bind_some, qbI, zi_m1]
  refine ⟨fun c => by rw [decide_eq_false c, if_neg (by decide)], fun c => ?_⟩
  obtain ⟨n, hn, hOK⟩ := hO p.toNat (by omega)
  rw [Int.toNat_of_nonneg c.1] at hOK
  have kr := rb_KR h hk
  have hb : Byt (bp (kp A) p) := fun i => bp_R kr p i
  obtain ⟨b, eb⟩ : ∃ b, bp (kp A) p = b := ⟨_, rfl⟩
  rw [eb] at hOK hb ⊢
  have h6 := hOK.2.2.2.2.2.1
  have hN := pl_n hOK hn hb
  have p6 := km_part kr c.1 (by omega) (a := 6) (by omega) (by omega)
  rw [eb] at p6
  -- the first two places of the row
  obtain ⟨m1, s1, r1, o1⟩ := rb_s0 h (i := 0) (by omega) (iz 0)
  obtain ⟨m2, s2, r2, o2⟩ := rb_s0 r1 (i := 1) (by omega) (iz 0)
  obtain ⟨A2, eA2⟩ : ∃ A2, A2 = va_up (va_up A 0 (upd (A 0) 0 (iz 0))) 0 (upd (va_up A 0 (upd (A 0) 0 (iz 0)) 0) 1 (iz 0)) := ⟨_, rfl⟩
  rw [← eA2] at r2
  have x2 : sX A2 A := by rw [eA2]; exact (sX.up _).tr (sX.up _)
  have W2 : RW m2 M A S L (fun i => (A2 0 i.toNat).toInt) := ⟨A2, r2, x2, fun i _ _ => by
    show A2 0 i = iz (A2 0 ((i : Int).toNat)).toInt
    rw [iz_of, Int.toNat_natCast]⟩
  obtain ⟨m3, s3, r3, o3⟩ := rm_fillL (M := M) (A := A) (S := S) (L := L) hk c.1 (by omega) (x2 := iz (b 6)) (fun μ y1 y2 => f_Mo_write_60 M μ y1 y2) 254 4094 2 m2 _ (by omega) (by omega) (by omega) W2 (fun j j0 j1 => by omega)
  rw [eb] at r3
  obtain ⟨m4, s4, r4, o4⟩ := rm_wL (M := M) (A := A) (S := S) (L := L) hk c.1 (by omega) hn eb hb hOK (fun μ y4 => f_Mo_write_234 M μ y4) 12 4096 0 m3 (by omega) (by omega) r3
  have t1 : plT b (0 + 1) = 8 := by
    unfold plT
    rw [cnt, cnt, pre_0 hOK]
    rfl
  rw [t1] at s4
  obtain ⟨e, he⟩ : ∃ e, (plE b 12).1 = e := ⟨_, rfl⟩
  obtain ⟨A4, B4, x4, R4⟩ := r4
  obtain ⟨m5, s5, r5, o5⟩ := rb_s0 B4 (i := 0) (by omega) (iz (e / 256))
  obtain ⟨m6, s6, r6, o6⟩ := rb_s0 r5 (i := 1) (by omega) (iz (e % 256))
  obtain ⟨m7, s7, r7, o7⟩ := rb_w1 r6 (iz e)
  have he0 : 12 ≤ e ∧ e ≤ 256 := by omega
  have hne : nI (pln b) = iz e := by rw [nI_iz, hN.1, he]
  refine ⟨m7, _, _, ?_, r7, ⟨by rw [hne]; simp [va_up], fun i hi => ?_⟩, ((sX.up _).tr (sX.up _)).tr x4, sY.up _, (((((o1.tr o2).tr o3).tr o4).tr o5).tr o6).tr o7⟩
  · rw [decide_eq_true c, if_pos rfl, kr.1, Option.bind_some, zi_6, p6, Option.bind_some]
    have g1 : f_Mo_write_20 M (fun μ y1 y2 => f_Mo_write_60 M μ y1 y2) 4096 μ (iz p) (iz (b 6)) (iz 0) = f_Mo_write_20 M (fun μ y1 y2 => f_Mo_write_60 M μ y1 y2) 4094 m2 (iz p) (iz (b 6)) (iz 2) := by
      have st : ∀ (fu : Nat) (μ μ' : mM) (x3 : Int32), ¬ (256 : Int32) ≤ x3 → x3 < (2 : Int32) → mfA μ (some M) [11] 0 = some (some (M + 1)) → msI μ (some (M + 1)) x3 0 = some μ' → f_Mo_write_20 M (fun μ y1 y2 => f_Mo_write_60 M μ y1 y2) (fu + 1) μ (iz p) (iz (b 6)) x3 = f_Mo_write_20 M (fun μ y1 y2 => f_Mo_write_60 M μ y1 y2) fu μ' (iz p) (iz (b 6)) (x3 + 1) := by
        intro fu μ μ' x3 w1 w2 w3 w4
        rw [f_Mo_write_20]
        unfold f_Mo_write_52 f_Mo_write_53
        rw [if_neg w1, w3, Option.bind_some, if_pos w2, w4, Option.bind_some]
      rw [show (4096 : Nat) = 4094 + 1 + 1 by rfl, st (4094 + 1) μ m1 (iz 0) (by decide) (by decide) (rb_f0 h).1 s1, st 4094 m1 m2 (iz 0 + 1) (by decide) (by decide) (rb_f0 r1).1 s2]
      rfl
    rw [zi_0, g1, s3]
    unfold f_Mo_write_60
    rw [zi_8, zi_4, iz_mul, iz_add, zi_1]
    refine (show _ = _ from s4).trans ?_
    show f_Mo_write_234 M m4 (iz (plE b 12).1) = _
    unfold f_Mo_write_234
    rw [he, zi_256, iz_div (iR_s (by omega) (by omega)) (iR_s (by omega) (by omega)) (by omega), Int.tdiv_eq_ediv_of_nonneg (by omega), iz_mul, iz_sub, show e - e / 256 * 256 = e % 256 by omega, (rb_f0 B4).1, Option.bind_some]
    change (msI m4 (some (M + 1)) (nI 0) (iz (e / 256))).bind _ = _
    rw [s5, Option.bind_some, (rb_f0 r5).1, Option.bind_some]
    change (msI m5 (some (M + 1)) (nI 1) (iz (e % 256))).bind _ = _
    rw [s6, Option.bind_some, s7, Option.bind_some, (rb_S r7).2.2.2, Option.bind_some, hne]
    simp [va_up]
  · unfold plq
    rw [he]
    by_cases c0 : i = 0
    · subst c0
      simp [va_up, upd]
    · by_cases c1 : i = 1
      · subst c1
        simp [va_up, upd]
      · rw [if_neg (by omega), if_neg (by omega)]
        have := R4 i (by omega) (by omega)
        simp [va_up, upd, c0, c1, this]
end WRU
