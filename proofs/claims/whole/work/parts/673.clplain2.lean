/-! The class's plainForm, whole. -/
theorem cp_of {μ : mM} {a z w e : Nat} {f : Nat → Int32} (h : μ a = some (.inl (0, 256, .inl f))) (ha : a ≠ z) (he : e ≤ 256) : ∃ μ' g, f_Arrays_copyOf μ z w (some a) (nI e) = some (some z, μ', z + 1, w + e) ∧ μ' z = some (.inl (0, e, .inl g)) ∧ (∀ i : Nat, i < e → g i = f i) ∧ ∀ c, c ≠ z → μ' c = μ c := by
  have el : ml μ (some a) = some (nI 256) := ml_i h (by decide)
  have ec : (nI e).toNatClampNeg = e := nI_clamp (by omega)
  by_cases c : e = 256
  · subst c
    refine ⟨mup μ z (.inl (0, 256, .inl f)), f, ?_, mup_self _ _ _, fun _ _ => rfl, fun c hc => mup_ne _ _ hc⟩
    unfold f_Arrays_copyOf
    refine mmT_i (Nat.le_refl _) (Nat.le_refl _) ?_ (Nat.le_add_right _ _) (Nat.le_add_right _ _)
    have em : mclone μ z w (some a) = some (some z, mup μ z (.inl (0, 256, .inl f)), z + 1, w + 256) := by
      simp only [mclone, h]
    have ea : mca (mup μ z (.inl (0, 256, .inl f))) (some z) = some () := by
      simp only [mca, mup_self]
    rw [el, Option.bind_some, if_pos rfl, em, Option.bind_some]
    refine mmT_i (Nat.le_add_right _ _) (Nat.le_add_right _ _) ?_ (Nat.le_refl _) (Nat.le_refl _)
    show (mca (mup μ z (.inl (0, 256, .inl f))) (some z)).bind _ = _
    rw [ea, Option.bind_some]
  · have h2 : mup μ z (.inl (0, e, .inl (fun _ => (0 : Int32)))) a = some (.inl (0, 256, .inl f)) := (mup_ne _ _ ha).trans h
    refine ⟨mup (mup μ z (.inl (0, e, .inl (fun _ => (0 : Int32))))) z (.inl (0, e, .inl (va_cpy f (fun _ => 0) 0 0 e))), va_cpy f (fun _ => 0) 0 0 e, ?_, mup_self _ _ _, fun i hi => ?_, fun c hc => (mup_ne _ _ hc).trans (mup_ne _ _ hc)⟩
    rotate_left
    · unfold va_cpy
      rw [if_pos (by omega)]
      congr 1
      omega
    · unfold f_Arrays_copyOf
      refine mmT_i (Nat.le_refl _) (Nat.le_refl _) ?_ (Nat.le_add_right _ _) (Nat.le_add_right _ _)
      have hne : ¬ nI e = nI 256 := fun w => by
        rw [nI_iz, nI_iz] at w
        have := (iz_eq (iR_s (by omega) (by omega)) (iR_s (by omega) (by omega))).mp w
        omega
      have hj : jminI (nI 256) (nI e) = nI e := by
        unfold jminI
        rw [nI_iz, nI_iz, if_pos ((iz_lt (iR_s (by omega) (by omega)) (iR_s (by omega) (by omega))).mpr (by omega))]
      rw [el, Option.bind_some, if_neg hne, mna_0 (by omega), Option.bind_some, ec]
      refine mmT_i (Nat.le_add_right _ _) (Nat.le_add_right _ _) ?_ (Nat.le_refl _) (Nat.le_refl _)
      rw [ml_i h2 (by decide), Option.bind_some]
      show (mcopy _ (some a) (nI 0) (some z) (nI 0) (jminI (nI 256) (nI e))).bind _ = _
      rw [hj, mcopy_i h2 (mup_self _ _ _) (by omega) (by omega) (by omega) (by omega), Option.bind_some]
section CPG
variable {X : Nat} {n : Nat} {b : Int → Int}
theorem bu_o {μ μ' : mM} (h : BU μ X n b) (h1 : μ' (X + 1) = μ (X + 1)) (h2 : μ' (X + 2) = μ (X + 2)) : BU μ' X n b := by
  obtain ⟨g1, g, g2, g3⟩ := h
  exact ⟨h1.trans g1, g, h2.trans g2, g3⟩
theorem plT_s {m : Nat} : plT b (m + 1) = plT b m + if 0 ≤ en b (m : Int) then 4 else 0 := by
  unfold plT
  rw [cnt]
  by_cases c : 0 ≤ en b (m : Int)
  · rw [if_pos (pre_i.mpr c), if_pos c]
    omega
  · rw [if_neg (fun w => c (pre_i.mp w)), if_neg c]
    omega
theorem pro_x {μ : mM} {pa : Nat} {q q' : Int → Int} (h : PRo μ pa q) (he : ∀ i, 2 ≤ i → i < 256 → q i = q' i) : PRo μ pa q' := by
  obtain ⟨f, h1, h2⟩ := h
  exact ⟨f, h1, fun i i0 i1 => by rw [h2 i i0 i1, he i (by omega) (by omega)]⟩
theorem pro_c {μ : mM} (h : BU μ X n b) (hn : n ≤ 256) {pa : Nat} {q : Int → Int} (hp : PRo μ pa q) {o e l : Int} (o0 : 0 ≤ o) (l0 : 0 ≤ l) (e0 : 2 ≤ e) (ho : o + l ≤ n) (he : e + l ≤ 256) : ∃ μ', mcopy μ (some (X + 2)) (iz o) (some pa) (iz e) (iz l) = some μ' ∧ PRo μ' pa (fun i => if e ≤ i ∧ i < e + l then b (o + (i - e)) else q i) ∧ ∀ c, c ≠ pa → μ' c = μ c := by
  obtain ⟨-, g, g2, g3⟩ := h
  obtain ⟨f, f1, f2⟩ := hp
  refine ⟨_, by rw [iz_nat o0, iz_nat l0, iz_nat (show 0 ≤ e by omega)]; exact mcopy_i g2 f1 (by omega) (by omega) (by decide) (by decide), ⟨_, mup_self _ _ _, fun i i0 i1 => ?_⟩, fun c hc => mup_ne _ _ hc⟩
  show va_cpy g f o.toNat e.toNat l.toNat i = iz (if e ≤ (i : Int) ∧ (i : Int) < e + l then b (o + ((i : Int) - e)) else q i)
  unfold va_cpy
  by_cases c : e ≤ (i : Int) ∧ (i : Int) < e + l
  · rw [if_pos c, if_pos (by omega), g3 _ (by omega)]
    congr 2
    omega
  · rw [if_neg c, if_neg (by omega), f2 i i0 i1]
theorem cl_169 {z : Nat} {μ : mM} {q : Int → Int} (hp : PRo μ (z + 1) q) (k : mM → Nat → Nat → Option Nat → Option Nat → Int32 → Int32 → Int32 → Option (Option Nat × mM × Nat × Nat)) (kx : mM → Nat → Nat → Option Nat → Int32 → Option (Option Nat × mM × Nat × Nat)) {zz ww : Nat} {x1 : Option Nat} {t e s l pl : Int} (t0 : 2 ≤ t) (t1 : t + 2 < 256) : ∃ μ', f_Buffer_plainForm_169 (X + 1) k kx μ zz ww x1 (some (z + 1)) (iz t) (iz e) (iz s) (iz l) (iz pl) = k μ' zz ww x1 (some (z + 1)) (iz (t + 4)) (iz e) (iz (s + 1)) ∧ PRo μ' (z + 1) (fun i => if i = t then s else if i = t + 1 then pl else if i = t + 2 then l else q i) ∧ ∀ c, c ≠ z + 1 → μ' c = μ c := by
  obtain ⟨m1, s1, p1, o1⟩ := pro_s hp (i := t) (by omega) (by omega) s
  obtain ⟨m2, s2, p2, o2⟩ := pro_s p1 (i := t + 1) (by omega) (by omega) pl
  obtain ⟨m3, s3, p3, o3⟩ := pro_s p2 (i := t + 2) (by omega) (by omega) l
  refine ⟨m3, ?_, pro_x p3 (fun i i0 i1 => ?_), fun c hc => (o3 c hc).trans ((o2 c hc).trans (o1 c hc))⟩
  · unfold f_Buffer_plainForm_169 f_Buffer_plainForm_191
    rw [s1, Option.bind_some, zi_1, iz_add, s2, Option.bind_some, zi_2, iz_add, s3, Option.bind_some, zi_4, iz_add, iz_add]
  · unfold zu
    by_cases c1 : i = t
    · rw [if_neg (by omega), if_neg (by omega), if_pos c1, if_pos c1]
    · rw [if_neg (show ¬ (i = t) from c1) (t := s) (e := if i = t + 1 then pl else if i = t + 2 then l else q i)]
      by_cases c2 : i = t + 1
      · rw [if_neg (by omega), if_pos c2, if_pos c2]
      · by_cases c3 : i = t + 2
        · rw [if_pos c3, if_neg c2, if_pos c3]
        · rw [if_neg c3, if_neg c2, if_neg c1, if_neg c2, if_neg c3]
theorem cl_plL {z : Nat} (hz : X + 2 < z) (hk : OKB b n) (hn : n ≤ 256) (hb : Byt b) (kx : mM → Nat → Nat → Option Nat → Int32 → Option (Option Nat × mM × Nat × Nat)) {zz ww : Nat} : ∀ (j fu m : Nat) (μ : mM), j < fu → m + j = 12 → BU μ X n b → (∃ f : Nat → Int32, μ z = some (.inl (0, 13, .inl f)) ∧ ∀ s : Nat, s < 13 → f s = iz (if 0 ≤ en b s then en b s else 0)) → PRo μ (z + 1) (plE b m).2 → ∃ μ', f_Buffer_plainForm_81 (X + 1) kx fu μ zz ww (some z) (some (z + 1)) (iz (plT b (m + 1))) (iz (plE b m).1) (iz ((m : Int) + 1)) = kx μ' zz ww (some (z + 1)) (iz (plE b 12).1) ∧ PRo μ' (z + 1) (plE b 12).2 ∧ ∀ c, c ≠ z + 1 → μ' c = μ c := by
  have h6 := hk.2.2.2.2.2.1
  intro j
  induction j with
  | zero =>
    intro fu m μ hf hm h hF hP
    obtain ⟨fu, rfl⟩ : ∃ m, fu = m + 1 := ⟨fu - 1, by omega⟩
    obtain rfl : m = 12 := by omega
    refine ⟨μ, ?_, hP, fun _ _ => rfl⟩
    rw [f_Buffer_plainForm_81, zi_12, qlt (iR_s (by omega) (by omega)) (iR_s (by omega) (by omega)), if_pos (by omega)]
  | succ j ih =>
    intro fu m μ hf hm h hF hP
    obtain ⟨fu, rfl⟩ : ∃ m, fu = m + 1 := ⟨fu - 1, by omega⟩
    have hQ := qi_all hk (by omega) hb m (by omega)
    have hQ' := qi_all hk (by omega) hb (m + 1) (by omega)
    have ep : plE b (m + 1) = if en b ((m + 1 : Nat) : Int) < 0 then plE b m else if plF b (plE b m).2 (m + 1) = 0 then (((plE b m).1 + ln b ((m + 1 : Nat) : Int) + 3) / 4 * 4, stp b (plE b m).2 (plT b (m + 1)) (plE b m).1 ((m + 1 : Nat) : Int) (plE b m).1 true) else ((plE b m).1, stp b (plE b m).2 (plT b (m + 1)) (plE b m).1 ((m + 1 : Nat) : Int) (plF b (plE b m).2 (m + 1)) false) := rfl
    obtain ⟨e, he⟩ : ∃ e, (plE b m).1 = e := ⟨_, rfl⟩
    obtain ⟨q, hqq⟩ : ∃ q, (plE b m).2 = q := ⟨_, rfl⟩
    rw [he, hqq] at hQ ep
    rw [hqq] at hP
    rw [he]
    obtain ⟨⟨a1, a2, a3⟩, a4, a5, a6, a7⟩ := hQ
    obtain ⟨f, f1, f2⟩ := hF
    have em : (m : Int) + 1 = ((m + 1 : Nat) : Int) := by omega
    have eg : mgI μ (some z) (iz ((m + 1 : Nat) : Int)) = some (iz (if 0 ≤ en b ((m + 1 : Nat) : Int) then en b ((m + 1 : Nat) : Int) else 0)) := by
      rw [← f2 (m + 1) (by omega), ← nI_iz]
      exact mgI_i f1 (by omega) (by decide)
    rw [f_Buffer_plainForm_81, zi_12, qlt (iR_s (by omega) (by omega)) (iR_s (by omega) (by omega)), if_neg (by omega), em, eg, Option.bind_some]
    have et := plT_s (b := b) (m := m + 1)
    by_cases c : en b ((m + 1 : Nat) : Int) < 0
    · rw [if_neg (show ¬ 0 ≤ en b ((m + 1 : Nat) : Int) by omega)] at et
      rw [if_neg (show ¬ 0 ≤ en b ((m + 1 : Nat) : Int) by omega), if_pos (show iz 0 = 0 from rfl)]
      rw [if_pos c] at ep
      obtain ⟨m2, s2, p2, o2⟩ := ih fu (m + 1) μ (by omega) (by omega) h ⟨f, f1, f2⟩ (by rw [ep, hqq]; exact hP)
      refine ⟨m2, ?_, p2, o2⟩
      unfold f_Buffer_plainForm_191
      rw [← s2, ep, he, zi_1, iz_add, et, Int.add_zero]
    · have hp : 0 ≤ en b ((m + 1 : Nat) : Int) := by omega
      obtain ⟨k, k0, k1, k2, k3⟩ := ok_at hk hp
      obtain ⟨o1, o2, o3, o4, o5, -, -⟩ := ok_s hk hp
      have t3 := plT_6 hk (s := m + 1) (by omega) hp
      have hf' := qi_fd hk (m := m) (by omega) a7
      rw [if_pos hp] at et
      rw [if_neg c] at ep
      have ed : da b ((m + 1 : Nat) : Int) = b (en b ((m + 1 : Nat) : Int) + 1) := by
        unfold da
        rw [if_neg c]
      have ll := hb (en b ((m + 1 : Nat) : Int) + 2)
      change 0 ≤ ln b ((m + 1 : Nat) : Int) ∧ ln b ((m + 1 : Nat) : Int) < 256 at ll
      have efd : ((mrc μ (some (X + 1)) 1).bind fun a => f_Buffer_findData μ a (some (z + 1)) (iz (plT b (m + 1))) (iz (da b ((m + 1 : Nat) : Int))) (iz (ln b ((m + 1 : Nat) : Int)))) = some (iz (plF b q (m + 1))) := by
        rw [(bu_e h).1, Option.bind_some]
        unfold f_Buffer_findData plF
        rw [zi_8]
        refine cl_fdL h hn hb a4 hP (by omega) (by omega) (by omega) (cnt (pre b) (m + 1)) 4096 8 (plT b (m + 1)) ?_ (by omega) rfl (by omega) ?_
        · have : plT b (m + 1) = 8 + 4 * (cnt (pre b) (m + 1) : Int) := rfl
          omega
        · intro k hk'
          obtain ⟨s', v1, v2, v3, v4, g1, g2, g3, g4, g5⟩ := hf' k hk'
          rw [v4, g2]
          omega
      rw [if_pos hp, if_neg (show ¬ iz (en b ((m + 1 : Nat) : Int)) = 0 from fun w => by have := (iz_eq (b := 0) (iR_s (by omega) (by omega)) (iR_s (by omega) (by omega))).mp w; omega), (bu_e h).2.1, Option.bind_some, Option.bind_some, zi_1, iz_add, bu_g h hn (by omega) (by omega), Option.bind_some, Option.bind_some, Option.bind_some, zi_2, iz_add, bu_g h hn (by omega) (by omega), Option.bind_some, ← ed]
      have eln : b (en b ((m + 1 : Nat) : Int) + 2) = ln b ((m + 1 : Nat) : Int) := rfl
      rw [eln, efd, Option.bind_some]
      have hB : ∀ μ1 : mM, (∀ c, c ≠ z + 1 → μ1 c = μ c) → BU μ1 X n b ∧ ∃ f : Nat → Int32, μ1 z = some (.inl (0, 13, .inl f)) ∧ ∀ s : Nat, s < 13 → f s = iz (if 0 ≤ en b s then en b s else 0) := fun μ1 ho => ⟨bu_o h (ho _ (by omega)) (ho _ (by omega)), f, (ho _ (by omega)).trans f1, f2⟩
      by_cases cF : plF b q (m + 1) = 0
      · rw [if_pos cF] at ep
        rw [cF, if_pos (show iz 0 = 0 from rfl), Option.bind_some]
        have hQ1 := hQ'.1.2.2
        have ep1 : (plE b (m + 1)).1 = (e + ln b ((m + 1 : Nat) : Int) + 3) / 4 * 4 := by rw [ep]
        have ep2 : (plE b (m + 1)).2 = stp b q (plT b (m + 1)) e ((m + 1 : Nat) : Int) e true := by rw [ep]
        rw [ep1] at hQ1
        obtain ⟨m1, s1, p1, r1⟩ := pro_c h hn hP (o := da b ((m + 1 : Nat) : Int)) (e := e) (l := ln b ((m + 1 : Nat) : Int)) (by omega) (by omega) (by omega) (by omega) (by omega)
        obtain ⟨m2, s2, p2, r2⟩ := cl_169 (X := X) p1 (f_Buffer_plainForm_81 (X + 1) kx fu) kx (zz := zz) (ww := ww) (x1 := some z) (t := plT b (m + 1)) (e := (e + ln b ((m + 1 : Nat) : Int) + 3) / 4 * 4) (s := ((m + 1 : Nat) : Int)) (l := ln b ((m + 1 : Nat) : Int)) (pl := e) (by omega) (by omega)
        have r12 : ∀ c, c ≠ z + 1 → m2 c = μ c := fun c hc => (r2 c hc).trans (r1 c hc)
        obtain ⟨m3, s3, p3, r3⟩ := ih fu (m + 1) m2 (by omega) (by omega) (hB m2 r12).1 (hB m2 r12).2 (by
          rw [ep2]
          refine pro_x p2 (fun i _ _ => ?_)
          unfold stp
          by_cases c1 : i = plT b (m + 1)
          · rw [if_pos c1, if_pos c1]
          · rw [if_neg c1, if_neg c1]
            by_cases c2 : i = plT b (m + 1) + 1
            · rw [if_pos c2, if_pos c2]
            · rw [if_neg c2, if_neg c2]
              by_cases c3 : i = plT b (m + 1) + 2
              · rw [if_pos c3, if_pos c3]
              · rw [if_neg c3, if_neg c3]
                by_cases c4 : e ≤ i ∧ i < e + ln b ((m + 1 : Nat) : Int)
                · rw [if_pos c4, if_pos ⟨rfl, c4⟩]
                · rw [if_neg c4, if_neg (fun w => c4 w.2)])
        refine ⟨m3, ?_, p3, fun c hc => (r3 c hc).trans (r12 c hc)⟩
        have edv : ((iz e + iz (ln b ((m + 1 : Nat) : Int)) + (3 : Int32)) / iz 4 * iz 4) = iz ((e + ln b ((m + 1 : Nat) : Int) + 3) / 4 * 4) := by
          rw [zi_3, iz_add, iz_add, iz_div (iR_s (by omega) (by omega)) (iR_s (by omega) (by omega)) (by omega), iz_mul, Int.tdiv_eq_ediv_of_nonneg (by omega)]
        rw [zi_4]
        change (mcopy μ (some (X + 2)) (iz (da b ((m + 1 : Nat) : Int))) (some (z + 1)) (iz e) (iz (ln b ((m + 1 : Nat) : Int)))).bind _ = _
        rw [s1, Option.bind_some, edv, s2, ← s3, ep1, et]
      · rw [if_neg cF] at ep
        have ep1 : (plE b (m + 1)).1 = e := by rw [ep]
        have ep2 : (plE b (m + 1)).2 = stp b q (plT b (m + 1)) e ((m + 1 : Nat) : Int) (plF b q (m + 1)) false := by rw [ep]
        have hpF : 0 ≤ plF b q (m + 1) ∧ plF b q (m + 1) < 256 := by
          have w := hQ'.2.1 (plT b (m + 1) + 1)
          rw [ep2, stp_t.2.1] at w
          exact w
        obtain ⟨m2, s2, p2, r2⟩ := cl_169 (X := X) hP (f_Buffer_plainForm_81 (X + 1) kx fu) kx (zz := zz) (ww := ww) (x1 := some z) (t := plT b (m + 1)) (e := e) (s := ((m + 1 : Nat) : Int)) (l := ln b ((m + 1 : Nat) : Int)) (pl := plF b q (m + 1)) (by omega) (by omega)
        obtain ⟨m3, s3, p3, r3⟩ := ih fu (m + 1) m2 (by omega) (by omega) (hB m2 r2).1 (hB m2 r2).2 (by
          rw [ep2]
          refine pro_x p2 (fun i _ _ => ?_)
          unfold stp
          by_cases c1 : i = plT b (m + 1)
          · rw [if_pos c1, if_pos c1]
          · rw [if_neg c1, if_neg c1]
            by_cases c2 : i = plT b (m + 1) + 1
            · rw [if_pos c2, if_pos c2]
            · rw [if_neg c2, if_neg c2]
              by_cases c3 : i = plT b (m + 1) + 2
              · rw [if_pos c3, if_pos c3]
              · rw [if_neg c3, if_neg c3, if_neg (fun w => by cases w.1)])
        refine ⟨m3, ?_, p3, fun c hc => (r3 c hc).trans (r2 c hc)⟩
        rw [if_neg (show ¬ iz (plF b q (m + 1)) = 0 from fun w => cF ((iz_eq (b := 0) (iR_s (by omega) (by omega)) (iR_s (by omega) (by omega))).mp w)), s2, ← s3, ep1, et]
def pln (b : Int → Int) : Nat := (plE b 12).1.toNat
def plq (b : Int → Int) : Int → Int := fun i => if i = 0 then (plE b 12).1 / 256 else if i = 1 then (plE b 12).1 % 256 else (plE b 12).2 i
theorem pl_n (hk : OKB b n) (hn : n ≤ 256) (hb : Byt b) : (pln b : Int) = (plE b 12).1 ∧ 12 ≤ pln b ∧ pln b ≤ n ∧ pln b % 4 = 0 := by
  have h := (qi_all hk (by omega) hb 12 (by omega)).1
  have h6 := hk.2.2.2.2.2.1
  unfold pln
  omega
theorem plq_R (hk : OKB b n) (hn : n ≤ 256) (hb : Byt b) : Byt (plq b) := by
  have h := qi_all hk (by omega) hb 12 (by omega)
  have h1 := h.1
  have h6 := hk.2.2.2.2.2.1
  intro i
  unfold plq
  repeat' split
  · omega
  · omega
  · exact h.2.1 i
theorem cl_plain {μ : mM} {z w : Nat} (hz : X + 2 < z) (h : BU μ X n b) (hk : OKB b n) (hn : n ≤ 256) (hb : Byt b) : ∃ μ' f, ((mrc μ (some (X + 1)) 1).bind fun a => f_Buffer_plainForm a μ z w) = some (some (z + 2), μ', z + 3, w + 269 + pln b) ∧ μ' (z + 2) = some (.inl (0, pln b, .inl f)) ∧ (∀ i : Nat, i < pln b → f i = iz (plq b i)) ∧ ∀ c, c < z ∨ z + 2 < c → μ' c = μ c := by
  have h6 := hk.2.2.2.2.2.1
  have hN := pl_n hk hn hb
  have c13 : ((13 : Int32)).toNatClampNeg = 13 := by decide
  have c256 : ((256 : Int32)).toNatClampNeg = 256 := by decide
  have n13 : mna μ z 0 (13 : Int32) = some (mup μ z (.inl (0, 13, .inl (fun _ => 0)))) := mna_0 (n := 13) (by decide)
  -- the entries by signature
  obtain ⟨m1, s1, F1, o1⟩ := cl_entL (X := X) (z := z) hz hk hn hb (fun μ z w y1 => f_Buffer_plainForm_43 (X + 1) μ z w y1) (zz := z + 1) (ww := w + 13) (b 6).toNat 4096 0 (mup μ z (.inl (0, 13, .inl (fun _ => 0)))) (by omega) (by omega) (bu_o h (mup_ne _ _ (by omega)) (mup_ne _ _ (by omega))) ⟨_, mup_self _ _ _, fun s _ => by
    rw [if_neg (fun w => by cases w)]
    rfl⟩
  have o1' : ∀ c, c ≠ z → m1 c = μ c := fun c hc => (o1 c hc).trans (mup_ne _ _ hc)
  have B1 : BU m1 X n b := bu_o h (o1' _ (by omega)) (o1' _ (by omega))
  have n256 : mna m1 (z + 1) 0 (256 : Int32) = some (mup m1 (z + 1) (.inl (0, 256, .inl (fun _ => 0)))) := mna_0 (n := 256) (by decide)
  obtain ⟨m2, em2⟩ : ∃ m2, m2 = mup m1 (z + 1) (.inl (0, 256, .inl (fun _ => (0 : Int32)))) := ⟨_, rfl⟩
  have o2 : ∀ c, c ≠ z + 1 → m2 c = m1 c := fun c hc => by rw [em2]; exact mup_ne _ _ hc
  have B2 : BU m2 X n b := bu_o B1 (o2 _ (by omega)) (o2 _ (by omega))
  obtain ⟨g, g2, g3⟩ := B2.2
  obtain ⟨m3, em3⟩ : ∃ m3, m3 = mup m2 (z + 1) (.inl (0, 256, .inl (va_cpy g (fun _ => (0 : Int32)) 0 0 8))) := ⟨_, rfl⟩
  have cp3 : mcopy m2 (some (X + 2)) (0 : Int32) (some (z + 1)) (0 : Int32) (8 : Int32) = some m3 := by
    rw [em3]
    exact mcopy_i (sp := 0) (dp := 0) (k := 8) g2 (by rw [em2]; exact mup_self _ _ _) (by omega) (by omega) (by decide) (by decide)
  have o3 : ∀ c, c ≠ z + 1 → m3 c = m2 c := fun c hc => by rw [em3]; exact mup_ne _ _ hc
  have o3' : ∀ c, c ≠ z → c ≠ z + 1 → m3 c = μ c := fun c hc hc1 => (o3 c hc1).trans ((o2 c hc1).trans (o1' c hc))
  have B3 : BU m3 X n b := bu_o B2 (o3 _ (by omega)) (o3 _ (by omega))
  have P3 : PRo m3 (z + 1) (plE b 0).2 := by
    refine ⟨_, by rw [em3]; exact mup_self _ _ _, fun i i0 i1 => ?_⟩
    show va_cpy g (fun _ => (0 : Int32)) 0 0 8 i = iz (if 2 ≤ (i : Int) ∧ (i : Int) < 8 then b i else 0)
    unfold va_cpy
    by_cases c : i < 8
    · rw [if_pos (by omega), if_pos (by omega), g3 _ (by omega)]
      congr 2
      omega
    · rw [if_neg (by omega), if_neg (by omega)]
      rfl
  have F3 : ∃ f : Nat → Int32, m3 z = some (.inl (0, 13, .inl f)) ∧ ∀ s : Nat, s < 13 → f s = iz (if 0 ≤ en b s then en b s else 0) := by
    obtain ⟨f, f1, f2⟩ := F1
    exact ⟨f, (o3 _ (by omega)).trans ((o2 _ (by omega)).trans f1), f2⟩
  obtain ⟨m4, s4, P4, o4⟩ := cl_plL hz hk hn hb (fun μ z w y2 y4 => f_Buffer_plainForm_197 (X + 1) μ z w y2 y4) (zz := z + 2) (ww := w + 269) 12 4096 0 m3 (by omega) (by omega) B3 F3 P3
  have t1 : plT b (0 + 1) = 8 := by
    unfold plT
    rw [cnt, cnt, pre_0 hk]
    rfl
  rw [t1] at s4
  obtain ⟨e, he⟩ : ∃ e, (plE b 12).1 = e := ⟨_, rfl⟩
  obtain ⟨f, f1, f2⟩ := P4
  obtain ⟨m5, em5⟩ : ∃ m5, m5 = mup m4 (z + 1) (.inl (0, 256, .inl (upd f 0 (iz (e / 256))))) := ⟨_, rfl⟩
  obtain ⟨m6, em6⟩ : ∃ m6, m6 = mup m5 (z + 1) (.inl (0, 256, .inl (upd (upd f 0 (iz (e / 256))) 1 (iz (e % 256))))) := ⟨_, rfl⟩
  have s5 : msI m4 (some (z + 1)) (iz 0) (iz (e / 256)) = some m5 := by
    rw [em5]
    exact msI_i (i := 0) f1 (by omega) (by decide)
  have s6 : msI m5 (some (z + 1)) (iz 1) (iz (e % 256)) = some m6 := by
    rw [em6]
    exact msI_i (i := 1) (by rw [em5]; exact mup_self _ _ _) (by omega) (by decide)
  obtain ⟨m7, fp, s7, r7, q7, o7⟩ := cp_of (μ := m6) (a := z + 1) (z := z + 2) (w := w + 269) (e := pln b) (by rw [em6]; exact mup_self _ _ _) (by omega) (by omega)
  have he0 : 12 ≤ e ∧ e ≤ 256 := by omega
  refine ⟨m7, fp, ?_, r7, fun i hi => ?_, fun c hc => ?_⟩
  · rw [(bu_e h).1, Option.bind_some]
    unfold f_Buffer_plainForm
    refine mmT_i (Nat.le_refl _) (Nat.le_refl _) ?_ (by show z ≤ z + 3; omega) (by show w ≤ w + 269 + pln b; omega)
    rw [n13, Option.bind_some, c13]
    refine mmT_i (by omega) (by omega) ?_ (by show z + 1 ≤ z + 3; omega) (by show w + 13 ≤ w + 269 + pln b; omega)
    rw [zi_0]
    refine s1.trans ?_
    show f_Buffer_plainForm_43 (X + 1) m1 (z + 1) (w + 13) (some z) = _
    unfold f_Buffer_plainForm_43
    rw [n256, Option.bind_some, c256]
    refine mmT_i (by omega) (by omega) ?_ (by show z + 1 + 1 ≤ z + 3; omega) (by show w + 13 + 256 ≤ w + 269 + pln b; omega)
    rw [← em2, (bu_e B2).2.1, Option.bind_some, cp3, Option.bind_some, (bu_e B3).2.1, Option.bind_some, zi_6, bu_g B3 hn (by omega) (by omega), Option.bind_some, zi_8, zi_4, iz_mul, iz_add]
    refine (show _ = _ from s4).trans ?_
    show f_Buffer_plainForm_197 (X + 1) m4 (z + 2) (w + 269) (some (z + 1)) (iz (plE b 12).1) = _
    unfold f_Buffer_plainForm_197
    rw [he, zi_0, zi_1, zi_256, iz_div (iR_s (by omega) (by omega)) (iR_s (by omega) (by omega)) (by omega), Int.tdiv_eq_ediv_of_nonneg (by omega), s5, Option.bind_some, iz_mul, iz_sub, show e - e / 256 * 256 = e % 256 by omega, s6, Option.bind_some, show iz e = nI (pln b) by rw [nI_iz, hN.1, he], s7, Option.bind_some]
    exact mmT_i (by show z + 2 ≤ z + 2 + 1; omega) (by show w + 269 ≤ w + 269 + pln b; omega) rfl (Nat.le_refl _) (Nat.le_refl _)
  · rw [q7 i hi]
    unfold upd plq
    rw [he]
    by_cases c0 : i = 0
    · subst c0
      rfl
    · by_cases c1 : i = 1
      · subst c1
        rfl
      · rw [if_neg c1, if_neg c0, if_neg (by omega), if_neg (by omega), f2 i (by omega) (by omega)]
  · rw [o7 c (by omega), em6, mup_ne _ _ (by omega), em5, mup_ne _ _ (by omega), o4 c (by omega), o3' c (by omega) (by omega)]
end CPG
