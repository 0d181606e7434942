/-! A profile being made: white and grids. -/
section ST3
variable {b : Int → Int} {n : Nat} {P pl Z : Nat} {φ0 : mM}
theorem mgD_i {i : Int} (h0 : 0 ≤ i) (h1 : i < 3) : mgD (iz i) = some (iz (dz i)) := by
  have c : i = 0 ∨ i = 1 ∨ i = 2 := by omega
  rcases c with rfl | rfl | rfl
  · exact mgD_0
  · exact mgD_1
  · exact mgD_2
theorem pf_138 (h : OKB b n) (hn : n ≤ 256) (hb : Byt b) {el : Int} {cf ef bb cb : Option Nat} (hpP : pl ≠ P) (hpZ : pl < Z) (hPZ : P < Z) (kx : mM → Nat → Nat → Option Nat → Option (mM × Nat × Nat)) {zz ww : Nat} : ∀ (m fu i : Nat) (μ : mM), m < fu → i + m = 3 → POb μ P pl Z el cf ef bb cb → PLR μ pl (pln b) (plq b) → OFA μ Z b → (∃ f : Nat → Int32, μ (Z + 3) = some (.inl (0, 3, .inl f)) ∧ ∀ k : Nat, k < i → f k = iz (whz b k)) → ∃ μ', f_Profile_init_138 P kx fu μ zz ww (some pl) (iz i) = kx μ' zz ww (some pl) ∧ (∃ f : Nat → Int32, μ' (Z + 3) = some (.inl (0, 3, .inl f)) ∧ ∀ k : Nat, k < 3 → f k = iz (whz b k)) ∧ ∀ c, c ≠ Z + 3 → μ' c = μ c := by
  have hN := pl_n h hn hb
  intro m
  induction m with
  | zero =>
    intro fu i μ hf hi hP hpl hO hF
    obtain ⟨fu, rfl⟩ : ∃ m, fu = m + 1 := ⟨fu - 1, by omega⟩
    obtain rfl : i = 3 := by omega
    refine ⟨μ, ?_, hF, fun _ _ => rfl⟩
    rw [f_Profile_init_138, zi_3, qle (iR_s (by omega) (by omega)) (iR_s (by omega) (by omega)), if_pos (by omega)]
  | succ m ih =>
    intro fu i μ hf hi hP hpl hO hF
    obtain ⟨fu, rfl⟩ : ∃ m, fu = m + 1 := ⟨fu - 1, by omega⟩
    obtain ⟨f, f1, f2⟩ := hF
    have og : mgI μ (some Z) (iz 12) = some (iz (ofs b 12)) := ofa_g hO (s := 12) (by omega) (by omega)
    have oR := ofs_R h hn hb 12
    have s1 : msI μ (some (Z + 3)) (nI i) (iz (whz b i)) = some (mup μ (Z + 3) (.inl (0, 3, .inl (upd f i (iz (whz b i)))))) := msI_i f1 (by omega) (by decide)
    have o1 : ∀ c, c ≠ Z + 3 → mup μ (Z + 3) (.inl (0, 3, .inl (upd f i (iz (whz b i))))) c = μ c := fun c hc => mup_ne _ _ hc
    obtain ⟨m2, r1, r2, r3⟩ := ih fu (i + 1) (mup μ (Z + 3) (.inl (0, 3, .inl (upd f i (iz (whz b i)))))) (by omega) (by omega) ((o1 _ (by omega)).trans hP) (plr_o hpl (o1 _ (by omega))) (by obtain ⟨g, g1, g2⟩ := hO; exact ⟨g, (o1 _ (by omega)).trans g1, g2⟩) ⟨_, mup_self _ _ _, fun k hk => by
      unfold upd
      by_cases c : k = i
      · rw [if_pos c, c]
      · rw [if_neg c]; exact f2 k (by omega)⟩
    refine ⟨m2, ?_, r2, fun c hc => (r3 c hc).trans (o1 c hc)⟩
    rw [f_Profile_init_138, zi_3, qle (iR_s (by omega) (by omega)) (iR_s (by omega) (by omega)), if_neg (by omega), (pob_e hP).2.2.2.1, Option.bind_some, (pob_e hP).1, Option.bind_some, zi_12, og, Option.bind_some]
    unfold f_Profile_init_183
    by_cases c : en b 12 < 0
    · have o0 : ofs b 12 = 0 := (ofs_0 h hn hb 12).mpr c
      have ew : whz b i = dz i := by
        unfold whz da
        rw [if_pos c, if_pos (by omega)]
      rw [o0, if_pos (show iz 0 = 0 from rfl), mgD_i (by omega) (by omega), Option.bind_some, ← ew, ← nI_iz i, s1, Option.bind_some, nI_s, nI_iz]
      exact r1
    · have hp : 0 ≤ en b ((12 : Nat) : Int) := Int.not_lt.mp c
      obtain ⟨d1, d2, d3, d4⟩ := pd_ok h hn hb hp
      have hl := ok_wh h hp
      have eo : ofs b 12 = pld b 12 := by unfold ofs; rw [if_pos hp]
      rw [eo] at og oR ⊢
      have ed : ¬ da b 12 < 0 := by
        have := (ok_s h hp).2.2.1
        have h6 := h.2.2.2.2.2.1
        change 8 + 4 * b 6 ≤ da b 12 at this
        omega
      have ew : whz b i = wz (plq b) (pld b 12 + 2 + 2 * i) := by
        have := pd_w h hn hb hp (i := 2 + 2 * (i : Int)) (by omega) (by have : ln b ((12 : Nat) : Int) = 8 := hl; omega)
        unfold whz
        rw [if_neg ed, show pld b 12 + 2 + 2 * (i : Int) = pld b 12 + (2 + 2 * (i : Int)) by omega, this]
        show wz b (da b 12 + 2 + 2 * (i : Int)) = wz b (da b 12 + (2 + 2 * (i : Int)))
        congr 1
        omega
      have d3' : pld b 12 + 8 ≤ pln b := by
        have e : ln b ((12 : Nat) : Int) = 8 := hl
        rw [e] at d3
        exact d3
      rw [if_neg (show ¬ iz (pld b 12) = 0 from fun q => by have := (iz_eq (b := 0) (iR_s (by omega) (by omega)) (iR_s (by omega) (by omega))).mp q; omega), Option.bind_some, og, Option.bind_some, zi_2, iz_add, iz_mul, iz_add, plr_w hpl (by omega) (by omega) (by omega), Option.bind_some, ← ew, ← nI_iz i, s1, Option.bind_some, nI_s, nI_iz]
      exact r1
def GRA (φ μ : mM) (Z : Nat) (b : Int → Int) (s : Nat) : Prop := ∃ f : Nat → Option Nat, μ (Z + 2) = some (.inl (7, 13, .inr (.inr (.inr (.inr f))))) ∧ ∀ t : Nat, 6 ≤ t → t < s → (b 3 = 1 ∨ en b t < 0 → f t = none) ∧ (b 3 ≠ 1 → 0 ≤ en b t → ∃ gi ra, f t = some gi ∧ GR φ gi (b (da b t + 1)) (nbz b (da b t)) ra)
theorem gr_mono {φ ψ : mM} {a : Nat} {g : Int} {nb : Int → Int} {ra : Nat} (h : GR φ a g nb ra) (hf : Fr φ ψ) : GR ψ a g nb ra := by
  obtain ⟨pa, n, st, f, h1, h2, h3⟩ := h
  exact ⟨pa, n, st, f, hf _ _ h1, hf _ _ h2, h3⟩
theorem pf_207 (h : OKB b n) (hn : n ≤ 256) (hb : Byt b) {el : Int} {cf ef bb cb : Option Nat} (hpP : pl ≠ P) (hpZ : pl < Z) (hpf : PLR φ0 pl (pln b) (plq b)) (kx : mM → Nat → Nat → Option Nat → Int32 → Option (mM × Nat × Nat)) : ∀ (m fu s : Nat) (μ φ : mM) (z w : Nat), m < fu → s + m = 12 → 6 ≤ s → GS φ0 φ μ P Z z → POb μ P pl Z el cf ef bb cb → PLR μ pl (pln b) (plq b) → OFA μ Z b → GRA φ μ Z b s → ∃ μ' φ' z' w', (∀ r : mM × Nat × Nat, kx μ' z' w' (some pl) (iz (bI (decide (b 3 = 1)))) = some r → z' ≤ r.2.1 → w' ≤ r.2.2 → f_Profile_init_207 P kx fu μ z w (some pl) (iz (bI (decide (b 3 = 1)))) (iz s) = some r) ∧ GS φ0 φ' μ' P Z z' ∧ Fr φ φ' ∧ GRA φ' μ' Z b 12 ∧ (z ≤ z' ∧ z' ≤ z + 2 * m ∧ w ≤ w' ∧ w' ≤ w + 9 * m) ∧ (∀ c, c < z → c ≠ Z + 2 → μ' c = μ c) := by
  have hN := pl_n h hn hb
  intro m
  induction m with
  | zero =>
    intro fu s μ φ z w hf hs s0 hG hP hpl hO hC
    obtain ⟨fu, rfl⟩ : ∃ m, fu = m + 1 := ⟨fu - 1, by omega⟩
    obtain rfl : s = 12 := by omega
    refine ⟨μ, φ, z, w, fun r hr _ _ => ?_, hG, Fr.rf, hC, by omega, fun _ _ _ => rfl⟩
    rw [f_Profile_init_207, zi_11, qlt (iR_s (by omega) (by omega)) (iR_s (by omega) (by omega)), if_pos (by omega)]
    exact hr
  | succ m ih =>
    intro fu s μ φ z w hf hs s0 hG hP hpl hO hC
    obtain ⟨fu, rfl⟩ : ∃ m, fu = m + 1 := ⟨fu - 1, by omega⟩
    obtain ⟨f, f1, f2⟩ := hC
    have g5 := hG.2.2.2.2.2.1
    have g9 := hG.2.2.2.2.2.2.2.2
    have g3 := hG.2.2.1
    have oR := ofs_R h hn hb s
    have og := ofa_g hO (s := (s : Int)) (by omega) (by omega)
    rw [Int.toNat_natCast] at og
    by_cases c : b 3 = 1 ∨ en b (s : Int) < 0
    · obtain ⟨m1, em1⟩ : ∃ m1, m1 = mup μ (Z + 2) (.inl (7, 13, .inr (.inr (.inr (.inr (va_up f s none)))))) := ⟨_, rfl⟩
      have s1 : msA μ (some (Z + 2)) (nI s) none = some m1 := by rw [em1]; exact msA_n (k := 4) f1 (by decide) (by omega) (by decide)
      have o1 : ∀ c, c ≠ Z + 2 → m1 c = μ c := fun c hc => by rw [em1]; exact mup_ne _ _ hc
      obtain ⟨μ', φ', z', w', r1, r2, r3, r4, r5, r6⟩ := ih fu (s + 1) m1 φ z w (by omega) (by omega) (by omega) (gs_mut hG (fun c c1 c2 => o1 c (by omega))) ((o1 _ (by omega)).trans hP) (plr_o hpl (o1 _ (by omega))) (by obtain ⟨g, g1, g2⟩ := hO; exact ⟨g, (o1 _ (by omega)).trans g1, g2⟩) ⟨_, by rw [em1]; exact mup_self _ _ _, fun t t0 t1 => by
        by_cases ct : t = s
        · subst ct
          exact ⟨fun _ => by simp [va_up], fun q1 q2 => by omega⟩
        · have := f2 t t0 (by omega)
          simpa [va_up, ct] using this⟩
      refine ⟨μ', φ', z', w', fun r q1 q2 q3 => ?_, r2, r3, r4, by omega, fun c c1 c2 => (r6 c c1 c2).trans (o1 c c2)⟩
      rw [f_Profile_init_207, zi_11, qlt (iR_s (by omega) (by omega)) (iR_s (by omega) (by omega)), if_neg (by omega), (pob_e hP).2.2.1, Option.bind_some, qbI, (pob_e hP).1, Option.bind_some, og, Option.bind_some]
      unfold f_Profile_init_234 f_Profile_init_253
      rw [← nI_iz s, s1, Option.bind_some, nI_s, nI_iz (s + 1)]
      by_cases c1 : b 3 = 1
      · rw [decide_eq_true c1, if_pos rfl]
        rw [decide_eq_true c1] at r1 q1
        exact r1 r q1 q2 q3
      · have o0 : ofs b s = 0 := (ofs_0 h hn hb s).mpr (by omega)
        rw [decide_eq_false c1, if_neg (by decide), o0, if_pos (show iz 0 = 0 from rfl)]
        rw [decide_eq_false c1] at r1 q1
        exact r1 r q1 q2 q3
    · have c3 : b 3 ≠ 1 := fun q => c (Or.inl q)
      have hp : 0 ≤ en b (s : Int) := by omega
      obtain ⟨d1, d2, d3, d4⟩ := pd_ok h hn hb hp
      obtain ⟨hE, hl⟩ := ok_EG h hn (s := (s : Int)) (by omega) (by omega) hp
      have eo : ofs b s = pld b s := by unfold ofs; rw [if_pos hp]
      rw [eo] at og oR
      have l2 := (ok_s h hp).2.2.2.1
      have D1 : plq b (pld b s + 1) = b (da b (s : Int) + 1) := d4 1 (by omega) (by omega)
      obtain ⟨m1, em1⟩ : ∃ m1, m1 = mup μ z (.inr (5, [.int 0, .int 0, .null, .int 0, .int 0, .null])) := ⟨_, rfl⟩
      have o1 : ∀ c, c ≠ z → m1 c = μ c := fun c hc => by rw [em1]; exact mup_ne _ _ hc
      have hpl1 : PLR m1 pl (pln b) (plq b) := plr_o hpl (o1 _ (by omega))
      obtain ⟨m2, s2, a2, b2, o2⟩ := gd_new hpl1 (by omega) (a := z) (z := z + 1) (w := w + 6) (by rw [em1]; exact mup_self _ _ _) (by omega) (by omega) (by omega) (off := pld b s) (by omega) (by omega)
      rw [D1] at a2
      obtain ⟨φ1, eφ⟩ : ∃ φ1, φ1 = mup φ z (.inr (5, [.int (iz 3), .int 0, .ref pl, .int (iz (pld b s + 2)), .int (iz (b (da b (s : Int) + 1))), .ref (z + 1)])) := ⟨_, rfl⟩
      have p1 : φ1 z = some (.inr (5, [.int (iz 3), .int 0, .ref pl, .int (iz (pld b s + 2)), .int (iz (b (da b (s : Int) + 1))), .ref (z + 1)])) := by rw [eφ]; exact mup_self _ _ _
      have p3 : ∀ c, c ≠ z → φ1 c = φ c := fun c c1 => by rw [eφ, mup_ne _ _ c1]
      obtain ⟨G1, F1⟩ := gs_up hG (φ' := φ1) (μ' := m2) (z' := z + 2) (by omega) (fun c c1 _ _ => by rw [o2 c (by omega) (by omega), o1 c (by omega)]) (fun c hc => by rw [o2 c (by omega) (by omega), o1 c (by omega)]; exact g3 c (by omega)) (fun c hc => p3 c (by omega)) (fun c e hc he => by
        by_cases c1 : c = z
        · rw [c1, p1] at he
          rw [c1, a2]
          exact he
        · rw [p3 c c1, gs_lt hG hc] at he
          cases he) (fun a fs r ha he hr => by
        by_cases c1 : a = z
        · rw [c1, p1] at he
          have e2 := (Prod.mk.inj (Sum.inr.inj (Option.some.inj he))).2
          rw [← e2] at hr
          have e3 : z + 1 = r := Value.ref.inj (Option.some.inj hr)
          have er : r = z + 1 := e3.symm
          subst er
          exact ⟨Nat.le_succ z, Nat.lt_succ_self (z + 1), by rw [p3 (z + 1) (by omega)]; exact gs_lt hG (by omega), fun _ => 0, ⟨_, b2, fun i _ => rfl⟩⟩
        · rw [p3 a c1, gs_lt hG ha] at he
          cases he)
      have f1' : m2 (Z + 2) = some (.inl (7, 13, .inr (.inr (.inr (.inr f))))) := by rw [o2 _ (by omega) (by omega), o1 _ (by omega)]; exact f1
      obtain ⟨m3, em3⟩ : ∃ m3, m3 = mup m2 (Z + 2) (.inl (7, 13, .inr (.inr (.inr (.inr (va_up f s (some z))))))) := ⟨_, rfl⟩
      have s3 : msA m2 (some (Z + 2)) (nI s) (some z) = some m3 := by rw [em3]; exact msA_i (k := 4) f1' (by decide) (by omega) (by decide) a2 (by decide)
      have o3 : ∀ c, c ≠ Z + 2 → m3 c = m2 c := fun c hc => by rw [em3]; exact mup_ne _ _ hc
      have o123 : ∀ c, c < z → c ≠ Z + 2 → m3 c = μ c := fun c c1 c2 => by rw [o3 c c2, o2 c (by omega) (by omega), o1 c (by omega)]
      have hGR : GR φ1 z (b (da b (s : Int) + 1)) (nbz b (da b (s : Int))) (z + 1) := by
        obtain ⟨fp, fp1, fp2⟩ := hpf
        have hpl' : φ1 pl = some (.inl (0, pln b, .inl fp)) := (hG.1.tr F1) _ _ fp1
        refine ⟨pl, pln b, pld b s + 2, fp, p1, hpl', ⟨hE.2.1, fun j j0 j1 => hb _⟩, by omega, by omega, by omega, fun j j0 j1 => ?_⟩
        rw [fp2 _ (by omega), Int.toNat_of_nonneg (by omega), show pld b s + 2 + j = pld b s + (2 + j) by omega, d4 (2 + j) (by omega) (by omega)]
        unfold nbz
        congr 2
        omega
      obtain ⟨μ', φ', z', w', r1, r2, r3, r4, r5, r6⟩ := ih fu (s + 1) m3 φ1 (z + 2) (w + 6 + 3) (by omega) (by omega) (by omega) (gs_mut G1 (fun c c1 c2 => o3 c (by omega))) ((o123 _ (by omega) (by omega)).trans hP) (plr_o hpl (o123 _ (by omega) (by omega))) (by obtain ⟨g, g1, g2⟩ := hO; exact ⟨g, (o123 _ (by omega) (by omega)).trans g1, g2⟩) ⟨_, by rw [em3]; exact mup_self _ _ _, fun t t0 t1 => by
        by_cases ct : t = s
        · subst ct
          exact ⟨fun q => absurd q c, fun _ _ => ⟨z, z + 1, by simp [va_up], hGR⟩⟩
        · obtain ⟨v1, v2⟩ := f2 t t0 (by omega)
          refine ⟨fun q => by simp [va_up, ct, v1 q], fun q1 q2 => ?_⟩
          obtain ⟨gi, ra, y1, y2⟩ := v2 q1 q2
          exact ⟨gi, ra, by simp [va_up, ct, y1], gr_mono y2 F1⟩⟩
      refine ⟨μ', φ', z', w', fun r q1 q2 q3 => ?_, r2, F1.tr r3, r4, by omega, fun c c1 c2 => (r6 c (by omega) c2).trans (o123 c c1 c2)⟩
      rw [f_Profile_init_207, zi_11, qlt (iR_s (by omega) (by omega)) (iR_s (by omega) (by omega)), if_neg (by omega), (pob_e hP).2.2.1, Option.bind_some, qbI, decide_eq_false c3, if_neg (by decide), (pob_e hP).1, Option.bind_some, og, Option.bind_some, if_neg (show ¬ iz (pld b s) = 0 from fun q => by have := (iz_eq (b := 0) (iR_s (by omega) (by omega)) (iR_s (by omega) (by omega))).mp q; omega)]
      rw [decide_eq_false c3] at r1 q1
      unfold mnew
      rw [Option.bind_some]
      refine mmV_i (by omega) (by omega) ?_ (by omega) (by omega)
      rw [← em1]
      have og1 : mgI m1 (some Z) (iz s) = some (iz (pld b s)) := by
        rw [← og]
        obtain ⟨g', g1', g2'⟩ := hO
        rw [← nI_iz s, mgI_i g1' (by omega) (by decide), mgI_i ((o1 _ (by omega)).trans g1') (by omega) (by decide)]
      have hP1 : POb m1 P pl Z el cf ef bb cb := (o1 _ (by omega)).trans hP
      rw [(pob_e hP1).1, Option.bind_some, og1, Option.bind_some, Option.bind_some, s2, Option.bind_some]
      refine mmV_i (by show z + 1 ≤ z + 1 + 1; omega) (by show w + 6 ≤ w + 6 + 3; omega) ?_ (by show z + 1 + 1 ≤ r.2.1; omega) (by show w + 6 + 3 ≤ r.2.2; omega)
      unfold f_Profile_init_253
      show ((msA m2 (some (Z + 2)) (iz s) (some z)).bind _) = _
      rw [← nI_iz s, s3, Option.bind_some, nI_s, nI_iz]
      exact r1 r q1 q2 q3
end ST3
