/-! A profile being made: curves, white, grids. -/
def GS (φ0 φ μ : mM) (P Z z : Nat) : Prop := Fr φ0 φ ∧ Fr φ μ ∧ (∀ c, z ≤ c → μ c = none) ∧ (∀ c, c < Z + 5 → φ c = φ0 c) ∧ (∀ c, Sc φ c → Sc φ0 c ∨ (Z + 5 ≤ c ∧ c < z ∧ φ c = none ∧ ∃ w, CF μ c w)) ∧ Z + 5 ≤ z ∧ φ0 P = none ∧ (∀ c, Z ≤ c → φ0 c = none) ∧ P < Z
section GSX
variable {φ0 φ μ : mM} {P Z z : Nat}
theorem gs_up (h : GS φ0 φ μ P Z z) {φ' μ' : mM} {z' : Nat} (hz : z ≤ z') (ho : ∀ c, c < z → c ≠ P → ¬ (Z ≤ c ∧ c < Z + 5) → μ' c = μ c) (hf : ∀ c, z' ≤ c → μ' c = none) (hφ : ∀ c, c < z → φ' c = φ c) (hn : ∀ c e, z ≤ c → φ' c = some e → μ' c = some e) (hs : ∀ a fs r, z ≤ a → φ' a = some (.inr (5, fs)) → fs[5]? = some (Value.ref r) → z ≤ r ∧ r < z' ∧ φ' r = none ∧ ∃ w, CF μ' r w) : GS φ0 φ' μ' P Z z' ∧ Fr φ φ' := by
  obtain ⟨h1, h2, h3, h4, h5, h6, h7, h8, h9⟩ := h
  have lt : ∀ c e, φ c = some e → c < z := fun c e he => by
    by_cases w : c < z
    · exact w
    · have := h2 c e he
      rw [h3 c (by omega)] at this
      cases this
  have fr : Fr φ φ' := fun c e he => by rw [hφ c (lt c e he)]; exact he
  refine ⟨⟨h1.tr fr, fun c e he => ?_, hf, fun c hc => by rw [hφ c (by omega), h4 c hc], fun c hc => ?_, by omega, h7, h8, h9⟩, fr⟩
  · by_cases w : c < z
    · rw [hφ c w] at he
      have n1 : c ≠ P := fun q => by
        rw [q, h4 P (by omega), h7] at he
        cases he
      have n2 : ¬ (Z ≤ c ∧ c < Z + 5) := fun q => by
        rw [h4 c (by omega), h8 c q.1] at he
        cases he
      rw [ho c w n1 n2]
      exact h2 c e he
    · exact hn c e (by omega) he
  · obtain ⟨a, fs, a1, a2⟩ := hc
    by_cases w : a < z
    · rw [hφ a w] at a1
      rcases h5 c ⟨a, fs, a1, a2⟩ with q | ⟨q1, q2, q3, w', q4⟩
      · exact Or.inl q
      · refine Or.inr ⟨q1, by omega, by rw [hφ c q2]; exact q3, w', ?_⟩
        obtain ⟨f, f1, f2⟩ := q4
        exact ⟨f, (ho c q2 (by omega) (by omega)).trans f1, f2⟩
    · obtain ⟨r1, r2, r3, r4⟩ := hs a fs c (by omega) a1 a2
      exact Or.inr ⟨by omega, r2, r3, r4⟩
theorem gs_mut (h : GS φ0 φ μ P Z z) {μ' : mM} (ho : ∀ c, c ≠ P → ¬ (Z ≤ c ∧ c < Z + 5) → μ' c = μ c) : GS φ0 φ μ' P Z z := by
  have h3 := h.2.2.1
  have h6 := h.2.2.2.2.2.1
  have h9 := h.2.2.2.2.2.2.2.2
  refine (gs_up h (Nat.le_refl _) (fun c _ c1 c2 => ho c c1 c2) (fun c hc => by rw [ho c (by omega) (by omega)]; exact h3 c hc) (fun _ _ => rfl) (fun c e hc he => ?_) (fun a fs r ha he _ => ?_)).1
  · have := h.2.1 c e he
    rw [h3 c hc] at this
    cases this
  · have := h.2.1 a _ he
    rw [h3 a ha] at this
    cases this
theorem gs_lt (h : GS φ0 φ μ P Z z) {c : Nat} (hc : z ≤ c) : φ c = none := h.2.1.none (h.2.2.1 c hc)
end GSX
theorem msA_n {μ : mM} {a k n i : Nat} {f : Nat → Option Nat} (h : μ a = some (.inl (k + 3, n, .inr (.inr (.inr (.inr f)))))) (hk : k < 5) (hi : i < n) (hn : n < 2 ^ 31) : msA μ (some a) (nI i) none = some (mup μ a (.inl (k + 3, n, .inr (.inr (.inr (.inr (va_up f i none))))))) := by
  have h2 : (nI i).toNatClampNeg = i := nI_clamp (by omega)
  simp only [msA, h]
  rw [if_pos hk, if_neg (ng_in hi hn), h2]
section ST2
variable {b : Int → Int} {n : Nat} {P pl Z : Nat} {φ0 : mM}
def CUA (φ μ : mM) (Z : Nat) (b : Int → Int) (s : Nat) : Prop := ∃ f : Nat → Option Nat, μ (Z + 1) = some (.inl (6, 5, .inr (.inr (.inr (.inr f))))) ∧ ∀ t : Nat, 1 ≤ t → t < s → (en b t < 0 → f t = none) ∧ (0 ≤ en b t → ∃ ci, f t = some ci ∧ CV φ ci (cg b (da b t)) (cn b (da b t)) (cw b (da b t)))
theorem pf_92 (h : OKB b n) (hn : n ≤ 256) (hb : Byt b) {el : Int} {cf ef bb cb : Option Nat} (hpP : pl ≠ P) (hpZ : pl < Z) (kx : mM → Nat → Nat → Option Nat → Option (mM × Nat × Nat)) : ∀ (m fu s : Nat) (μ φ : mM) (z w : Nat), m < fu → s + m = 5 → 1 ≤ s → GS φ0 φ μ P Z z → POb μ P pl Z el cf ef bb cb → PLR μ pl (pln b) (plq b) → OFA μ Z b → CUA φ μ Z b s → ∃ μ' φ' z' w', (∀ r : mM × Nat × Nat, kx μ' z' w' (some pl) = some r → z' ≤ r.2.1 → w' ≤ r.2.2 → f_Profile_init_92 P kx fu μ z w (some pl) (iz s) = some r) ∧ GS φ0 φ' μ' P Z z' ∧ Fr φ φ' ∧ CUA φ' μ' Z b 5 ∧ (z ≤ z' ∧ z' ≤ z + 2 * m ∧ w ≤ w' ∧ w' ≤ w + 26 * m) ∧ (∀ c, c < z → c ≠ Z + 1 → μ' c = μ c) := by
  have hN := pl_n h hn hb
  intro m
  induction m with
  | zero =>
    intro fu s μ φ z w hf hs s0 hG hP hpl hO hC
    obtain ⟨fu, rfl⟩ : ∃ m, fu = m + 1 := ⟨fu - 1, by omega⟩
    obtain rfl : s = 5 := by omega
    refine ⟨μ, φ, z, w, fun r hr _ _ => ?_, hG, Fr.rf, hC, by omega, fun _ _ _ => rfl⟩
    rw [f_Profile_init_92, zi_4, qlt (iR_s (by omega) (by omega)) (iR_s (by omega) (by omega)), if_pos (by omega)]
    exact hr
  | succ m ih =>
    intro fu s μ φ z w hf hs s0 hG hP hpl hO hC
    obtain ⟨fu, rfl⟩ : ∃ m, fu = m + 1 := ⟨fu - 1, by omega⟩
    obtain ⟨f, f1, f2⟩ := hC
    have g5 := hG.2.2.2.2.2.1
    have g9 := hG.2.2.2.2.2.2.2.2
    have g3 := hG.2.2.1
    have oR := ofs_R h hn hb s
    have og := ofa_g hO (s := (s : Int)) (by omega) (by omega)
    rw [Int.toNat_natCast] at og
    by_cases c : en b (s : Int) < 0
    · have o0 := (ofs_0 h hn hb s).mpr c
      rw [o0] at og
      obtain ⟨m1, em1⟩ : ∃ m1, m1 = mup μ (Z + 1) (.inl (6, 5, .inr (.inr (.inr (.inr (va_up f s none)))))) := ⟨_, rfl⟩
      have s1 : msA μ (some (Z + 1)) (nI s) none = some m1 := by rw [em1]; exact msA_n (k := 3) f1 (by decide) (by omega) (by decide)
      have o1 : ∀ c, c ≠ Z + 1 → m1 c = μ c := fun c hc => by rw [em1]; exact mup_ne _ _ hc
      obtain ⟨μ', φ', z', w', r1, r2, r3, r4, r5, r6⟩ := ih fu (s + 1) m1 φ z w (by omega) (by omega) (by omega) (gs_mut hG (fun c c1 c2 => o1 c (by omega))) ((o1 _ (by omega)).trans hP) (plr_o hpl (o1 _ (by omega))) (by obtain ⟨g, g1, g2⟩ := hO; exact ⟨g, (o1 _ (by omega)).trans g1, g2⟩) ⟨_, by rw [em1]; exact mup_self _ _ _, fun t t0 t1 => by
        by_cases ct : t = s
        · subst ct
          exact ⟨fun _ => by simp [va_up], fun q => by omega⟩
        · have := f2 t t0 (by omega)
          simpa [va_up, ct] using this⟩
      refine ⟨μ', φ', z', w', fun r q1 q2 q3 => ?_, r2, r3, r4, by omega, fun c c1 c2 => (r6 c c1 c2).trans (o1 c c2)⟩
      rw [f_Profile_init_92, zi_4, qlt (iR_s (by omega) (by omega)) (iR_s (by omega) (by omega)), if_neg (by omega), (pob_e hP).2.1, Option.bind_some, (pob_e hP).1, Option.bind_some, og, Option.bind_some, if_pos (show iz 0 = 0 from rfl)]
      unfold f_Profile_init_129
      rw [← nI_iz s, s1, Option.bind_some, nI_s, nI_iz]
      exact r1 r q1 q2 q3
    · have hp : 0 ≤ en b (s : Int) := by omega
      obtain ⟨d1, d2, d3, d4⟩ := pd_ok h hn hb hp
      obtain ⟨hE, hl⟩ := ok_EC h hn hb (s := (s : Int)) (by omega) hp
      have eo : ofs b s = pld b s := by unfold ofs; rw [if_pos hp]
      rw [eo] at og oR
      obtain ⟨E1, E2, E3, E4⟩ := hE
      have hCN : 0 ≤ cn b (da b (s : Int)) ∧ cn b (da b (s : Int)) ≤ 24 := by
        rcases E2 with q | q
        · have e : cn b (da b (s : Int)) = b (da b (s : Int) + 1) := by unfold cn; rw [if_pos q]
          have e2 : cg b (da b (s : Int)) = 0 := by unfold cg; rw [if_pos q]
          have := E3.2.2.2.1 e2
          omega
        · have e : cn b (da b (s : Int)) = 2 := by unfold cn; rw [if_neg (by omega)]
          omega
      have D0 : plq b (pld b s) = b (da b (s : Int)) := by
        have := d4 0 (by omega) (by omega)
        rw [Int.add_zero, Int.add_zero] at this
        exact this
      have D1 : plq b (pld b s + 1) = b (da b (s : Int) + 1) := d4 1 (by omega) (by omega)
      obtain ⟨m1, em1⟩ : ∃ m1, m1 = mup μ z (.inr (2, [.int 0, .null])) := ⟨_, rfl⟩
      have o1 : ∀ c, c ≠ z → m1 c = μ c := fun c hc => by rw [em1]; exact mup_ne _ _ hc
      have hpl1 : PLR m1 pl (pln b) (plq b) := plr_o hpl (o1 _ (by omega))
      obtain ⟨m2, g, s2, a2, b2, c2, o2⟩ := cv_new hpl1 (by omega) (a := z) (z := z + 1) (w := w + 2) (by rw [em1]; exact mup_self _ _ _) (by omega) (by omega) (by omega) (off := pld b s) (G := cg b (da b (s : Int))) (N := cn b (da b (s : Int))) (W := cw b (da b (s : Int))) (by omega) (plq_R h hn hb) (fun q => by
        rw [D0] at q
        have e : cn b (da b (s : Int)) = 2 := by unfold cn; rw [if_neg (by omega)]
        have e2 : cg b (da b (s : Int)) = b (da b (s : Int) + 1) := by unfold cg; rw [if_neg (by omega)]
        rw [D1, e, e2]
        exact ⟨rfl, by omega, rfl⟩) (fun q => by
        rw [D0] at q
        have q1 : b (da b (s : Int)) = 1 := by omega
        have e : cn b (da b (s : Int)) = b (da b (s : Int) + 1) := by unfold cn; rw [if_pos q1]
        have e2 : cg b (da b (s : Int)) = 0 := by unfold cg; rw [if_pos q1]
        rw [D1, e, e2]
        exact ⟨rfl, rfl⟩) (fun i i0 i1 => by
        have := pd_w h hn hb hp (i := 2 + 2 * i) (by omega) (by omega)
        rw [show pld b s + 2 + 2 * i = pld b s + (2 + 2 * i) by omega, this]
        unfold cw
        congr 1
        omega) hCN (by omega)
      obtain ⟨φ1, eφ⟩ : ∃ φ1, φ1 = mup (mup φ z (.inr (2, [.int (iz (cg b (da b (s : Int)))), .ref (z + 1)]))) (z + 1) (.inl (0, (cn b (da b (s : Int))).toNat, .inl g)) := ⟨_, rfl⟩
      have p1 : φ1 z = some (.inr (2, [.int (iz (cg b (da b (s : Int)))), .ref (z + 1)])) := by rw [eφ, mup_ne _ _ (by omega)]; exact mup_self _ _ _
      have p2 : φ1 (z + 1) = some (.inl (0, (cn b (da b (s : Int))).toNat, .inl g)) := by rw [eφ]; exact mup_self _ _ _
      have p3 : ∀ c, c ≠ z → c ≠ z + 1 → φ1 c = φ c := fun c c1 c2 => by rw [eφ, mup_ne _ _ c2, mup_ne _ _ c1]
      obtain ⟨G1, F1⟩ := gs_up hG (φ' := φ1) (μ' := m2) (z' := z + 2) (by omega) (fun c c1 _ _ => by rw [o2 c (by omega) (by omega), o1 c (by omega)]) (fun c hc => by rw [o2 c (by omega) (by omega), o1 c (by omega)]; exact g3 c (by omega)) (fun c hc => p3 c (by omega) (by omega)) (fun c e hc he => by
        by_cases c1 : c = z
        · rw [c1, p1] at he
          rw [c1, a2]
          exact he
        · by_cases c2 : c = z + 1
          · rw [c2, p2] at he
            rw [c2, b2]
            exact he
          · rw [p3 c c1 c2, gs_lt hG hc] at he
            cases he) (fun a fs r ha he hr => by
        by_cases c1 : a = z
        · rw [c1, p1] at he
          have := (Prod.mk.inj (Sum.inr.inj (Option.some.inj he))).1
          omega
        · by_cases c2 : a = z + 1
          · rw [c2, p2] at he
            cases he
          · rw [p3 a c1 c2, gs_lt hG ha] at he
            cases he)
      have f1' : m2 (Z + 1) = some (.inl (6, 5, .inr (.inr (.inr (.inr f))))) := by rw [o2 _ (by omega) (by omega), o1 _ (by omega)]; exact f1
      obtain ⟨m3, em3⟩ : ∃ m3, m3 = mup m2 (Z + 1) (.inl (6, 5, .inr (.inr (.inr (.inr (va_up f s (some z))))))) := ⟨_, rfl⟩
      have s3 : msA m2 (some (Z + 1)) (nI s) (some z) = some m3 := by rw [em3]; exact msA_i (k := 3) f1' (by decide) (by omega) (by decide) a2 (by decide)
      have o3 : ∀ c, c ≠ Z + 1 → m3 c = m2 c := fun c hc => by rw [em3]; exact mup_ne _ _ hc
      have o123 : ∀ c, c < z → c ≠ Z + 1 → m3 c = μ c := fun c c1 c2 => by rw [o3 c c2, o2 c (by omega) (by omega), o1 c (by omega)]
      obtain ⟨μ', φ', z', w', r1, r2, r3, r4, r5, r6⟩ := ih fu (s + 1) m3 φ1 (z + 2) (w + 2 + (cn b (da b (s : Int))).toNat) (by omega) (by omega) (by omega) (gs_mut G1 (fun c c1 c2 => o3 c (by omega))) ((o123 _ (by omega) (by omega)).trans hP) (plr_o hpl (o123 _ (by omega) (by omega))) (by obtain ⟨g, g1, g2⟩ := hO; exact ⟨g, (o123 _ (by omega) (by omega)).trans g1, g2⟩) ⟨_, by rw [em3]; exact mup_self _ _ _, fun t t0 t1 => by
        by_cases ct : t = s
        · subst ct
          exact ⟨fun q => by omega, fun _ => ⟨z, by simp [va_up], ⟨z + 1, g, p1, p2, c2, hCN⟩⟩⟩
        · obtain ⟨v1, v2⟩ := f2 t t0 (by omega)
          refine ⟨fun q => by simp [va_up, ct, v1 q], fun q => ?_⟩
          obtain ⟨ci, y1, y2⟩ := v2 q
          exact ⟨ci, by simp [va_up, ct, y1], y2.mono F1⟩⟩
      refine ⟨μ', φ', z', w', fun r q1 q2 q3 => ?_, r2, F1.tr r3, r4, by omega, fun c c1 c2 => (r6 c (by omega) c2).trans (o123 c c1 c2)⟩
      rw [f_Profile_init_92, zi_4, qlt (iR_s (by omega) (by omega)) (iR_s (by omega) (by omega)), if_neg (by omega), (pob_e hP).2.1, Option.bind_some, (pob_e hP).1, Option.bind_some, og, Option.bind_some, if_neg (show ¬ iz (pld b s) = 0 from fun q => by have := (iz_eq (b := 0) (iR_s (by omega) (by omega)) (iR_s (by omega) (by omega))).mp q; omega)]
      unfold mnew
      rw [Option.bind_some]
      refine mmV_i (by omega) (by omega) ?_ (by omega) (by omega)
      rw [← em1]
      have og1 : mgI m1 (some Z) (iz s) = some (iz (pld b s)) := by
        rw [← og]
        obtain ⟨g', g1', g2'⟩ := hO
        rw [← nI_iz s, mgI_i g1' (by omega) (by decide), mgI_i ((o1 _ (by omega)).trans g1') (by omega) (by decide)]
      have hP1 : POb m1 P pl Z el cf ef bb cb := (o1 _ (by omega)).trans hP
      rw [(pob_e hP1).1, Option.bind_some, og1, Option.bind_some, Option.bind_some, s2, Option.bind_some]
      refine mmV_i (by show z + 1 ≤ z + 1 + 1; omega) (by show w + 2 ≤ w + 2 + (cn b (da b (s : Int))).toNat; omega) ?_ (by show z + 1 + 1 ≤ r.2.1; omega) (by show w + 2 + (cn b (da b (s : Int))).toNat ≤ r.2.2; omega)
      unfold f_Profile_init_129
      show ((msA m2 (some (Z + 1)) (iz s) (some z)).bind _) = _
      rw [← nI_iz s, s3, Option.bind_some, nI_s, nI_iz]
      exact r1 r q1 q2 q3
end ST2
