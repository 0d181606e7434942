/-! The class's parse. -/
section CPR
variable {φ μ : mM} {X z w : Nat} {K K' : Int → Int} {np nl : Nat} {G : Nat → Lz} {C : Nat → List Pz} {F : Nat → Int} {Pa Lk : Nat → Nat} {L : Nat → Int64} {pr : Int32}
theorem sc_lnk (hco : CO μ φ X) {a ci : Nat} {fs : List Value} (h : μ a = some (.inr (ci, fs))) : ¬ Sc φ a := by
  intro q
  obtain ⟨-, -, w, f, f1, -⟩ := hco.1 a q
  rw [h] at f1
  cases f1
theorem cl_parse {n : Nat} {b : Int → Int} (h : CK μ φ X z K np nl G C F Pa Lk L (nI np) pr) (h3 : KP μ X np Pa) (hco : CO μ φ X) (hsz : ∀ c, Sc φ c → c < z) (hQ : KQ φ np K Pa) (hFp : ∀ k, k < nl → F k < np) (hX3 : φ (X + 1) = none ∧ φ (X + 2) = none ∧ φ (X + 3) = none) (hU : BU μ X n b) (hn : n ≤ 256) (hb : Byt b) (hnp : np < 6) (hft : ftz b n = 0) (hE : KE K K' np) (eb : bp K' np = b) : ∃ μ' φ' z' w', f_CL_parse X μ z w = some (nI np, μ', z', w') ∧ (z ≤ z' ∧ z' ≤ z + 60 ∧ w ≤ w' ∧ w' ≤ w + 1000) ∧ CK μ' φ' X z' K' (np + 1) nl G C F (gup Pa np z) Lk L (nI (np + 1)) pr ∧ KP μ' X (np + 1) (gup Pa np z) ∧ CO μ' φ' X ∧ (∀ c, Sc φ' c → (Sc φ c ∨ z ≤ c) ∧ c < z') ∧ (∀ c, c < z → φ' c = φ c) ∧ KQ φ' (np + 1) K' (gup Pa np z) ∧ (φ' (X + 1) = none ∧ φ' (X + 2) = none ∧ φ' (X + 3) = none) ∧ (∀ c, c < z → c ≠ X → c ≠ X + 3 → ¬ Sc φ c → μ' c = μ c) := by
  have hOK := ftz_0 hb hft
  have hW := ok_WB hOK hn hb
  have hN := pl_n hOK hn hb
  obtain ⟨⟨cc, hx⟩, ⟨f4, k4, k4'⟩, ⟨f7, k7⟩, kl, ki, kj, kk, kF, kφ, kX, kf, kz, kp', kw, kg, kn, kC, kS⟩ := h
  have φhi : ∀ c, z ≤ c → φ c = none := fun c hc => kF.none (kf c hc)
  have E := xf_e hx
  -- the new object
  obtain ⟨m4, e4⟩ : ∃ m, m = mup μ z (.inr (9, pr0F)) := ⟨_, rfl⟩
  have o4 : ∀ c, c ≠ z → m4 c = μ c := fun c hc => by rw [e4]; exact mup_ne _ _ hc
  have U4 : BU m4 X n b := bu_o hU (o4 _ (by omega)) (o4 _ (by omega))
  obtain ⟨m5, fp, s5, r5, q5, o5⟩ := cl_plain (z := z + 1) (w := w + 11) (by omega) U4 hOK hn hb
  have o5' : ∀ c, c < z → m5 c = μ c := fun c hc => by rw [o5 c (Or.inl (by omega)), o4 c (by omega)]
  have U5 : BU m5 X n b := bu_o hU (o5' _ (by omega)) (o5' _ (by omega))
  have s8 := cl_el U5 hOK hn hb
  have P5 : m5 z = some (.inr (9, pr0F)) := by rw [o5 z (Or.inl (by omega)), e4]; exact mup_self _ _ _
  have F5 : Fr φ m5 := fun c e he => by
    have : c < z := by
      by_cases w : c < z
      · exact w
      · rw [φhi c (by omega)] at he; cases he
    rw [o5' c this]
    exact kF _ _ he
  obtain ⟨m6, φ6, z6, w6, s6, B6, Q6, ⟨cf, ef, bb, cb, O6⟩, L6, ⟨fw, W6, W6'⟩, b6, b6', F6, G6, H6, o6, f6, S6⟩ := pr_new hOK hn hb (φ := φ) (μ := m5) (P := z) (pl := z + 3) (z := z + 4) (w := w + 11 + 269 + pln b) (el := elz b) P5 (by omega) (by omega) (by omega) ⟨fp, r5, q5⟩ F5 (φhi _ (by omega)) (φhi _ (by omega)) (fun c hc => by rw [o5 c (Or.inr (by omega)), o4 c (by omega)]; exact kf c (by omega))
  have φ6lt : ∀ c, c < z → φ6 c = φ c := fun c hc => H6 c (by omega) (by omega) (by omega)
  have φ6hi : ∀ c, z6 ≤ c → φ6 c = none := fun c hc => G6.none (f6 c hc)
  have o6' : ∀ c, c < z → m6 c = μ c := fun c hc => by rw [o6 c (by omega) (by omega), o5' c hc]
  have Sc6 : ∀ c, Sc φ6 c → (Sc φ c ∧ c < z) ∨ (z + 9 ≤ c ∧ c < z6) := fun c hc => by
    rcases S6 c hc with q | ⟨q1, q2, -⟩
    · exact Or.inl ⟨q, hsz c q⟩
    · exact Or.inr ⟨by omega, q2⟩
  have S6' : ∀ c, Sc φ6 c → φ6 c = none ∧ ∃ w, CF m6 c w := fun c hc => by
    rcases S6 c hc with q | ⟨q1, q2, q3, q4⟩
    · obtain ⟨x1, x2, y, x3⟩ := hco.1 c q
      exact ⟨by rw [φ6lt c (hsz c q)]; exact x1, y, cf_tr x3 (o6' c (hsz c q))⟩
    · exact ⟨q3, q4⟩
  have eQ : PR0 φ6 z (bp K' (np : Int)) (elz b) (pln b) (plq b) := by rw [eb]; exact Q6
  obtain ⟨m7, g7, s7, F7, S7, b7, y7, o7⟩ := bk_new (K := K') (p := (np : Int)) eQ (by rw [eb]; exact hW) (by omega) (ba := z + 8) (z := z6) (w := w6) φ6hi b6 (by omega) (fun q => by have := Sc6 _ q; omega) (fun c hc => by have := Sc6 c hc; omega) (fun μ hF => (pob_e (show POb μ z (z + 3) (z + 4) (elz b) cf ef bb cb from hF _ _ O6)).2.2.2.2) G6 S6' b6'
  have o7' : ∀ c, c < z → ¬ Sc φ c → m7 c = μ c := fun c hc hs => by
    rw [o7 c (by omega) (by omega) (fun q => by
      rcases Sc6 c q with w | w
      · exact hs w.1
      · omega), o6' c hc]
  have nsX : ∀ c, c ≤ X + 8 → ¬ Sc φ c := fun c hc q => by have := hco.2.2.2 c q; omega
  have x7 : m7 X = some (.inr (10, xF X (nI np) (nI nl) cc pr)) := (o7' X (by omega) (nsX X (by omega))).trans hx
  obtain ⟨f3, y3, y3'⟩ := h3
  have k3 : m7 (X + 3) = some (.inl (3, 6, .inr (.inr (.inr (.inr f3))))) := (o7' _ (by omega) (nsX _ (by omega))).trans y3
  have P7 : m7 z = some (.inr (9, [.ref (z + 3), .int (iz (elz b)), .ref (z + 4), .ref (z + 4 + 1), .ref (z + 4 + 2), va_rf cf, va_rf ef, va_rf bb, va_rf cb, .ref (z + 4 + 3), .ref (z + 4 + 4)])) := F7 _ _ O6
  obtain ⟨m8, e8⟩ : ∃ m, m = mup m7 (X + 3) (.inl (3, 6, .inr (.inr (.inr (.inr (va_up f3 np (some z))))))) := ⟨_, rfl⟩
  have s8' : msA m7 (some (X + 3)) (nI np) (some z) = some m8 := by rw [e8]; exact msA_i (k := 0) k3 (by decide) (by omega) (by decide) P7 (by decide)
  have x8 : m8 X = some (.inr (10, xF X (nI np) (nI nl) cc pr)) := by rw [e8, mup_ne _ _ (by omega)]; exact x7
  obtain ⟨m9, e9⟩ : ∃ m, m = mup m8 X (.inr (10, xF X (nI (np + 1)) (nI nl) cc pr)) := ⟨_, rfl⟩
  have s9 : mpI m8 (some X) [10] 2 (nI (np + 1)) = some m9 := by rw [e9]; exact xf_kc x8 _
  have x9 : m9 X = some (.inr (10, xF X (nI (np + 1)) (nI nl) cc pr)) := by rw [e9]; exact mup_self _ _ _
  have o9 : ∀ c, c ≠ X → c ≠ X + 3 → m9 c = m7 c := fun c c1 c2 => by rw [e9, mup_ne _ _ c1, e8, mup_ne _ _ c2]
  have o9' : ∀ c, c < z → c ≠ X → c ≠ X + 3 → ¬ Sc φ c → m9 c = μ c := fun c c0 c1 c2 c3 => by rw [o9 c c1 c2, o7' c c0 c3]
  -- what is kept now
  obtain ⟨φ7, eφ⟩ : ∃ φ7, φ7 = mup φ6 (z + 8) (.inl (0, 3, .inl g7)) := ⟨_, rfl⟩
  have p7 : φ7 (z + 8) = some (.inl (0, 3, .inl g7)) := by rw [eφ]; exact mup_self _ _ _
  have n7 : ∀ c, c ≠ z + 8 → φ7 c = φ6 c := fun c hc => by rw [eφ]; exact mup_ne _ _ hc
  have F67 : Fr φ6 φ7 := fun c e he => by
    rw [n7 c (fun q => by rw [q, b6] at he; cases he)]
    exact he
  have Fφ : Fr φ φ7 := F6.tr F67
  have φ7lt : ∀ c, c < z → φ7 c = φ c := fun c hc => by rw [n7 c (by omega), φ6lt c hc]
  have Sc7 : ∀ c, Sc φ7 c → Sc φ6 c := fun c ⟨a, fs, a1, a2⟩ => by
    refine ⟨a, fs, ?_, a2⟩
    by_cases q : a = z + 8
    · rw [q, p7] at a1; cases a1
    · rw [n7 a q] at a1; exact a1
  have F9 : Fr φ7 m9 := fun c e he => by
    have c1 : c ≠ X := fun q => by rw [q, φ7lt X (by omega), kφ.1] at he; cases he
    have c2 : c ≠ X + 3 := fun q => by rw [q, φ7lt _ (by omega), hX3.2.2] at he; cases he
    rw [o9 c c1 c2]
    by_cases q : c = z + 8
    · rw [q, p7] at he
      rw [q, b7]
      exact he
    · rw [n7 c q] at he
      exact F7 _ _ he
  have hPz : ∀ p, p < np → Pa p < z := fun p hp => by
    obtain ⟨el, n', q, ⟨hq, -⟩⟩ := kp' p hp
    obtain ⟨pl, oa, cu, gr', wa, ba, cf, ef, bb, cb, f, fc, fg, kc, kg, h1, -⟩ := hq
    by_cases w : Pa p < z
    · exact w
    · rw [φhi _ (by omega)] at h1; cases h1
  have gP : ∀ p, p < np → gup Pa np z p = Pa p := fun p hp => if_neg (by omega)
  have gz : gup Pa np z np = z := if_pos rfl
  refine ⟨m9, φ7, z6 + 1, w6 + 3, ?_, by omega, ⟨⟨cc, x9⟩, ⟨f4, (o9' _ (by omega) (by omega) (by omega) (nsX _ (by omega))).trans k4, k4'⟩, ⟨f7, (o9' _ (by omega) (by omega) (by omega) (nsX _ (by omega))).trans k7⟩, ?_, ki, ?_, fun k hk => ?_, F9, ⟨by rw [φ7lt _ (by omega)]; exact kφ.1, by rw [φ7lt _ (by omega)]; exact kφ.2.1, by rw [φ7lt _ (by omega)]; exact kφ.2.2⟩, ⟨Fφ _ _ kX.1, Fφ _ _ kX.2⟩, fun c hc => ?_, by omega, fun p hp => ?_, fun p hp => ?_, fun k hk => ?_, ⟨kn.1, by omega⟩, ch_cg hE kg kC, kS⟩, ?_, ⟨fun c hc => ?_, by rw [φ7lt _ (by omega)]; exact hco.2.1, ?_, fun c hc => ?_⟩, fun c hc => ?_, φ7lt, fun p hp => ?_, ⟨by rw [φ7lt _ (by omega)]; exact hX3.1, by rw [φ7lt _ (by omega)]; exact hX3.2.1, by rw [φ7lt _ (by omega)]; exact hX3.2.2⟩, o9'⟩
  · -- the run
    unfold f_CL_parse
    refine mmT_i (Nat.le_refl _) (Nat.le_refl _) ?_ (by show z ≤ z6 + 1; omega) (by show w ≤ w6 + 3; omega)
    rw [E.2.2.2.1, Option.bind_some, nI_iz np, zi_6, qlt (iR_s (by omega) (by omega)) (iR_s (by omega) (by omega)), if_pos (by omega), E.2.1, Option.bind_some, cl_fault hU hn hb, Option.bind_some, hft, if_pos (show iz (-0) = 0 from rfl)]
    have en : mnew μ z 9 [.null, .int 0, .null, .null, .null, .null, .null, .null, .null, .null, .null] = some m4 := by rw [e4]; rfl
    rw [en, Option.bind_some]
    refine mmT_i (by omega) (by omega) ?_ (by show z + 1 ≤ z6 + 1; omega) (by show w + 11 ≤ w6 + 3; omega)
    have x4 : m4 X = some (.inr (10, xF X (nI np) (nI nl) cc pr)) := (o4 _ (by omega)).trans hx
    have x5 : m5 X = some (.inr (10, xF X (nI np) (nI nl) cc pr)) := (o5' _ (by omega)).trans hx
    rw [(xf_e x4).2.1, Option.bind_some]
    change ((((mrc m4 (some (X + 1)) 1).bind fun a => f_Buffer_plainForm a m4 (z + 1) (w + 11)).bind _) = _)
    rw [s5, Option.bind_some]
    refine mmT_i (by show z + 1 ≤ z + 1 + 3; omega) (by show w + 11 ≤ w + 11 + 269 + pln b; omega) ?_ (by show z + 1 + 3 ≤ z6 + 1; omega) (by show w + 11 + 269 + pln b ≤ w6 + 3; omega)
    show ((mfA m5 (some X) [10] 0).bind _) = _
    rw [(xf_e x5).2.1, Option.bind_some]
    change ((((mrc m5 (some (X + 1)) 1).bind fun a => f_Buffer_countElements m5 a).bind _) = _)
    rw [s8, Option.bind_some, Option.bind_some]
    change ((f_Profile_init z m5 (z + 4) (w + 11 + 269 + pln b) (some (z + 3)) (iz (elz b))).bind _) = _
    rw [s6, Option.bind_some]
    refine mmT_i (by show z + 4 ≤ z6; omega) (by show w + 11 + 269 + pln b ≤ w6; omega) ?_ (by show z6 ≤ z6 + 1; omega) (by show w6 ≤ w6 + 3; omega)
    change ((((mrc m6 (some z) 9).bind fun a => f_Profile_measureBlack a m6 z6 w6).bind _) = _)
    rw [s7, Option.bind_some]
    refine mmT_i (by show z6 ≤ z6 + 1; omega) (by show w6 ≤ w6 + 3; omega) ?_ (Nat.le_refl _) (Nat.le_refl _)
    show ((mfA m7 (some X) [10] 1).bind _) = _
    have E7 := xf_e x7
    rw [E7.2.2.1, Option.bind_some, E7.2.2.2.1, Option.bind_some, s8', Option.bind_some, (xf_e x8).2.2.2.1, Option.bind_some, nI_s, s9, Option.bind_some, (xf_e x9).2.2.2.1, Option.bind_some, nI_iz (np + 1), zi_1, iz_sub, show ((np + 1 : Nat) : Int) - 1 = np by omega]
  · -- the links
    intro k hk
    obtain ⟨row, la, l1, l2, l3⟩ := lks_cg hE kg kC kl k hk
    obtain ⟨g1, g2, g3, g4, g5⟩ := kg k hk
    have hk' := kk k hk
    have fk := (kS k hk).2
    have fp := hFp k hk
    refine ⟨row, la, ?_, ?_, l3⟩
    · rw [o9' _ hk'.2.1 (by omega) (by omega) (sc_lnk hco l1), l1]
      unfold lkF
      rw [gP _ (by omega), gP _ (by omega), gP _ (by omega)]
    · obtain ⟨f, f1, f2⟩ := l2
      refine ⟨f, Fφ _ _ f1, fun j q hq => ?_⟩
      obtain ⟨a, a1, a2, a3⟩ := f2 j q hq
      exact ⟨a, a1, a2.mono Fφ, a3.mono Fφ⟩
  · -- the profiles are apart
    intro i j hi hj e
    by_cases ci : i = np
    · by_cases cj : j = np
      · rw [ci, cj]
      · rw [ci, gz, gP j (by omega)] at e
        have := hPz j (by omega)
        omega
    · by_cases cj : j = np
      · rw [cj, gz, gP i (by omega)] at e
        have := hPz i (by omega)
        omega
      · rw [gP i (by omega), gP j (by omega)] at e
        exact kj i j (by omega) (by omega) e
  · have := kk k hk
    exact ⟨this.1, by omega, by rw [φ7lt _ this.2.1]; exact this.2.2⟩
  · rw [o9 c (by omega) (by omega), o7 c (by omega) (by omega) (fun q => by have := Sc6 c q; omega)]
    exact f6 c (by omega)
  · by_cases c : p = np
    · rw [c, gz]
      refine ⟨_, _, _, eQ.mono F67, _, z + 4 + 3, z + 8, fw, g7, F67 _ _ O6, rfl, rfl, F67 _ _ W6, ?_, p7, y7⟩
      rw [eb]
      exact W6'
    · obtain ⟨el, n', q, hq⟩ := kp' p (by omega)
      rw [gP p (by omega)]
      exact ⟨el, n', q, PR.mono (pr_cg (hE p (by omega) (by omega)) hq) Fφ⟩
  · by_cases c : p = np
    · rw [c, eb]; exact hW
    · rw [← hE p (by omega) (by omega)]
      exact kw p (by omega)
  · obtain ⟨g1, g2, g3, g4, g5⟩ := kg k hk
    exact ⟨g1, g2, by omega, by omega, g5⟩
  · refine ⟨va_up f3 np (some z), by rw [e9, mup_ne _ _ (by omega), e8]; exact mup_self _ _ _, fun p hp => ?_⟩
    by_cases c : p = np
    · rw [c, gz]; simp [va_up]
    · rw [gP p (by omega)]
      simp [va_up, c, y3' p (by omega)]
  · have q := Sc7 c hc
    obtain ⟨w', x⟩ := S7 c q
    have q2 := Sc6 c q
    have c8 : c ≠ z + 8 := by omega
    have cX : X + 8 < c := by
      rcases q2 with w | w
      · exact hco.2.2.2 c w.1
      · omega
    refine ⟨by rw [n7 c c8]; exact (S6' c q).1, by omega, w', cf_tr x (o9 c (by omega) (by omega))⟩
  · obtain ⟨w', x⟩ := hco.2.2.1
    exact ⟨w', cf_tr x (o9' _ (by omega) (by omega) (by omega) (nsX _ (by omega)))⟩
  · have q2 := Sc6 c (Sc7 c hc)
    rcases q2 with w | w
    · exact hco.2.2.2 c w.1
    · omega
  · rcases Sc6 c (Sc7 c hc) with w | w
    · exact ⟨Or.inl w.1, by omega⟩
    · exact ⟨Or.inr (by omega), by omega⟩
  · by_cases c : p = np
    · rw [c, gz, eb]
      refine ⟨?_, n, hn, hOK⟩
      obtain ⟨fl, l1, l2⟩ := L6
      exact ⟨z + 3, _, fl, F67 _ _ O6, F67 _ _ l1, l2⟩
    · obtain ⟨q1, q2⟩ := hQ p (by omega)
      rw [gP p (by omega), ← hE p (by omega) (by omega)]
      exact ⟨q1.mono Fφ, q2⟩
end CPR
