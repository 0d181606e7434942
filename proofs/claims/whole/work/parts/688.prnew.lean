/-! A profile is made. -/
theorem cs_mono {φ ψ : mM} {a : Nat} {kd n : Int} {b oc : Int → Int} (h : CS φ a kd n b oc) (hf : Fr φ ψ) : CS ψ a kd n b oc := by
  obtain ⟨lo, ra, f, h1, h2, h3, h4⟩ := h
  refine ⟨lo, ra, f, hf _ _ h1, hf _ _ h2, h3, fun i hi => ?_⟩
  obtain ⟨ci, c1, c2, c3⟩ := h4 i hi
  exact ⟨ci, c1, c2.mono hf, c3⟩
section PNW
variable {b : Int → Int} {n : Nat}
def pr0F : List Value := [.null, .int 0, .null, .null, .null, .null, .null, .null, .null, .null, .null]
/-- the arrays of a new profile: the memory before the loops -/
theorem pn_start {μ : mM} {P pl z w : Nat} {el : Int} (hP : μ P = some (.inr (9, pr0F))) (hPz : P < z) : ∃ m, (∀ r : mM × Nat × Nat, f_Profile_init_55 P (fun μ z w y1 => f_Profile_init_90 P μ z w y1) 4096 m (z + 5) (w + 37) (some pl) (iz 0) = some r → z + 5 ≤ r.2.1 → w + 37 ≤ r.2.2 → f_Profile_init P μ z w (some pl) (iz el) = some r) ∧ POb m P pl z el none none none none ∧ m z = some (.inl (0, 13, .inl (fun _ => (0 : Int32)))) ∧ m (z + 1) = some (.inl (6, 5, .inr (.inr (.inr (.inr (fun _ => none)))))) ∧ m (z + 2) = some (.inl (7, 13, .inr (.inr (.inr (.inr (fun _ => none)))))) ∧ m (z + 3) = some (.inl (0, 3, .inl (fun _ => (0 : Int32)))) ∧ m (z + 4) = some (.inl (0, 3, .inl (fun _ => (0 : Int32)))) ∧ ∀ c, c ≠ P → (c < z ∨ z + 5 ≤ c) → m c = μ c := by
  obtain ⟨m1, e1⟩ : ∃ m, m = mup μ z (.inl (0, 13, .inl (fun _ => (0 : Int32)))) := ⟨_, rfl⟩
  obtain ⟨m2, e2⟩ : ∃ m, m = mup m1 P (.inr (9, [.null, .int 0, .ref z, .null, .null, .null, .null, .null, .null, .null, .null])) := ⟨_, rfl⟩
  obtain ⟨m3, e3⟩ : ∃ m, m = mup m2 (z + 1) (.inl (6, 5, .inr (.inr (.inr (.inr (fun _ => none)))))) := ⟨_, rfl⟩
  obtain ⟨m4, e4⟩ : ∃ m, m = mup m3 P (.inr (9, [.null, .int 0, .ref z, .ref (z + 1), .null, .null, .null, .null, .null, .null, .null])) := ⟨_, rfl⟩
  obtain ⟨m5, e5⟩ : ∃ m, m = mup m4 (z + 2) (.inl (7, 13, .inr (.inr (.inr (.inr (fun _ => none)))))) := ⟨_, rfl⟩
  obtain ⟨m6, e6⟩ : ∃ m, m = mup m5 P (.inr (9, [.null, .int 0, .ref z, .ref (z + 1), .ref (z + 2), .null, .null, .null, .null, .null, .null])) := ⟨_, rfl⟩
  obtain ⟨m7, e7⟩ : ∃ m, m = mup m6 (z + 3) (.inl (0, 3, .inl (fun _ => (0 : Int32)))) := ⟨_, rfl⟩
  obtain ⟨m8, e8⟩ : ∃ m, m = mup m7 P (.inr (9, [.null, .int 0, .ref z, .ref (z + 1), .ref (z + 2), .null, .null, .null, .null, .ref (z + 3), .null])) := ⟨_, rfl⟩
  obtain ⟨m9, e9⟩ : ∃ m, m = mup m8 (z + 4) (.inl (0, 3, .inl (fun _ => (0 : Int32)))) := ⟨_, rfl⟩
  obtain ⟨m10, e10⟩ : ∃ m, m = mup m9 P (.inr (9, [.null, .int 0, .ref z, .ref (z + 1), .ref (z + 2), .null, .null, .null, .null, .ref (z + 3), .ref (z + 4)])) := ⟨_, rfl⟩
  obtain ⟨m11, e11⟩ : ∃ m, m = mup m10 P (.inr (9, [.ref pl, .int 0, .ref z, .ref (z + 1), .ref (z + 2), .null, .null, .null, .null, .ref (z + 3), .ref (z + 4)])) := ⟨_, rfl⟩
  obtain ⟨m12, e12⟩ : ∃ m, m = mup m11 P (.inr (9, [.ref pl, .int (iz el), .ref z, .ref (z + 1), .ref (z + 2), .null, .null, .null, .null, .ref (z + 3), .ref (z + 4)])) := ⟨_, rfl⟩
  have p1 : m1 P = some (.inr (9, pr0F)) := by rw [e1, mup_ne _ _ (by omega)]; exact hP
  have s2 : mpA m1 (some P) [9] 2 (some z) = some m2 := by rw [e2]; exact mpA_i p1 rfl (show 2 < 11 by decide) _
  have p3 : m3 P = some (.inr (9, [.null, .int 0, .ref z, .null, .null, .null, .null, .null, .null, .null, .null])) := by rw [e3, mup_ne _ _ (by omega), e2]; exact mup_self _ _ _
  have s4 : mpA m3 (some P) [9] 3 (some (z + 1)) = some m4 := by rw [e4]; exact mpA_i p3 rfl (show 3 < 11 by decide) _
  have p5 : m5 P = some (.inr (9, [.null, .int 0, .ref z, .ref (z + 1), .null, .null, .null, .null, .null, .null, .null])) := by rw [e5, mup_ne _ _ (by omega), e4]; exact mup_self _ _ _
  have s6 : mpA m5 (some P) [9] 4 (some (z + 2)) = some m6 := by rw [e6]; exact mpA_i p5 rfl (show 4 < 11 by decide) _
  have p7 : m7 P = some (.inr (9, [.null, .int 0, .ref z, .ref (z + 1), .ref (z + 2), .null, .null, .null, .null, .null, .null])) := by rw [e7, mup_ne _ _ (by omega), e6]; exact mup_self _ _ _
  have s8 : mpA m7 (some P) [9] 9 (some (z + 3)) = some m8 := by rw [e8]; exact mpA_i p7 rfl (show 9 < 11 by decide) _
  have p9 : m9 P = some (.inr (9, [.null, .int 0, .ref z, .ref (z + 1), .ref (z + 2), .null, .null, .null, .null, .ref (z + 3), .null])) := by rw [e9, mup_ne _ _ (by omega), e8]; exact mup_self _ _ _
  have s10 : mpA m9 (some P) [9] 10 (some (z + 4)) = some m10 := by rw [e10]; exact mpA_i p9 rfl (show 10 < 11 by decide) _
  have p10 : m10 P = some (.inr (9, [.null, .int 0, .ref z, .ref (z + 1), .ref (z + 2), .null, .null, .null, .null, .ref (z + 3), .ref (z + 4)])) := by rw [e10]; exact mup_self _ _ _
  have s11 : mpA m10 (some P) [9] 0 (some pl) = some m11 := by rw [e11]; exact mpA_i p10 rfl (show 0 < 11 by decide) _
  have p11 : m11 P = some (.inr (9, [.ref pl, .int 0, .ref z, .ref (z + 1), .ref (z + 2), .null, .null, .null, .null, .ref (z + 3), .ref (z + 4)])) := by rw [e11]; exact mup_self _ _ _
  have s12 : mpI m11 (some P) [9] 1 (iz el) = some m12 := by rw [e12]; exact mpI_i p11 rfl (show 1 < 11 by decide) _
  have n1 : mna μ z 0 (13 : Int32) = some m1 := by rw [e1]; exact mna_0 (n := 13) (by decide)
  have n3 : mna m2 (z + 1) 6 (5 : Int32) = some m3 := by rw [e3]; exact mna_k (n := 5) (k := 6) (by decide) (by decide)
  have n5 : mna m4 (z + 1 + 1) 7 (13 : Int32) = some m5 := by rw [e5]; exact mna_k (n := 13) (k := 7) (by decide) (by decide)
  have n7 : mna m6 (z + 1 + 1 + 1) 0 (3 : Int32) = some m7 := by rw [e7]; exact mna_0 (n := 3) (by decide)
  have n9 : mna m8 (z + 1 + 1 + 1 + 1) 0 (3 : Int32) = some m9 := by rw [e9]; exact mna_0 (n := 3) (by decide)
  have c13 : ((13 : Int32)).toNatClampNeg = 13 := by decide
  have c5 : ((5 : Int32)).toNatClampNeg = 5 := by decide
  have c3 : ((3 : Int32)).toNatClampNeg = 3 := by decide
  refine ⟨m12, fun r hr r1 r2 => ?_, by rw [e12]; exact mup_self _ _ _, ?_, ?_, ?_, ?_, ?_, fun c c1 c2 => ?_⟩
  · unfold f_Profile_init
    refine mmV_i (Nat.le_refl _) (Nat.le_refl _) ?_ (by omega) (by omega)
    rw [n1, Option.bind_some, c13, c5, c3]
    refine mmV_i (by omega) (by omega) ?_ (by omega) (by omega)
    rw [s2, Option.bind_some, n3, Option.bind_some]
    refine mmV_i (by omega) (by omega) ?_ (by omega) (by omega)
    rw [s4, Option.bind_some, n5, Option.bind_some]
    refine mmV_i (by omega) (by omega) ?_ (by omega) (by omega)
    rw [s6, Option.bind_some, n7, Option.bind_some]
    refine mmV_i (by omega) (by omega) ?_ (by omega) (by omega)
    rw [s8, Option.bind_some, n9, Option.bind_some]
    refine mmV_i (by omega) (by omega) ?_ (by omega) (by omega)
    rw [s10, Option.bind_some, s11, Option.bind_some, s12, Option.bind_some]
    exact hr
  · rw [e12, mup_ne _ _ (by omega), e11, mup_ne _ _ (by omega), e10, mup_ne _ _ (by omega), e9, mup_ne _ _ (by omega), e8, mup_ne _ _ (by omega), e7, mup_ne _ _ (by omega), e6, mup_ne _ _ (by omega), e5, mup_ne _ _ (by omega), e4, mup_ne _ _ (by omega), e3, mup_ne _ _ (by omega), e2, mup_ne _ _ (by omega), e1]
    exact mup_self _ _ _
  · rw [e12, mup_ne _ _ (by omega), e11, mup_ne _ _ (by omega), e10, mup_ne _ _ (by omega), e9, mup_ne _ _ (by omega), e8, mup_ne _ _ (by omega), e7, mup_ne _ _ (by omega), e6, mup_ne _ _ (by omega), e5, mup_ne _ _ (by omega), e4, mup_ne _ _ (by omega), e3]
    exact mup_self _ _ _
  · rw [e12, mup_ne _ _ (by omega), e11, mup_ne _ _ (by omega), e10, mup_ne _ _ (by omega), e9, mup_ne _ _ (by omega), e8, mup_ne _ _ (by omega), e7, mup_ne _ _ (by omega), e6, mup_ne _ _ (by omega), e5]
    exact mup_self _ _ _
  · rw [e12, mup_ne _ _ (by omega), e11, mup_ne _ _ (by omega), e10, mup_ne _ _ (by omega), e9, mup_ne _ _ (by omega), e8, mup_ne _ _ (by omega), e7]
    exact mup_self _ _ _
  · rw [e12, mup_ne _ _ (by omega), e11, mup_ne _ _ (by omega), e10, mup_ne _ _ (by omega), e9]
    exact mup_self _ _ _
  · rw [e12, mup_ne _ _ (by omega), e11, mup_ne _ _ (by omega), e10, mup_ne _ _ (by omega), e9, mup_ne _ _ (by omega), e8, mup_ne _ _ (by omega), e7, mup_ne _ _ (by omega), e6, mup_ne _ _ (by omega), e5, mup_ne _ _ (by omega), e4, mup_ne _ _ (by omega), e3, mup_ne _ _ (by omega), e2, mup_ne _ _ (by omega), e1, mup_ne _ _ (by omega)]
theorem pr_new (h : OKB b n) (hn : n ≤ 256) (hb : Byt b) {φ μ : mM} {P pl z w : Nat} {el : Int} (hP : μ P = some (.inr (9, pr0F))) (hPz : P < z) (hplz : pl < z) (hpP : pl ≠ P) (hpl : PLR μ pl (pln b) (plq b)) (hF : Fr φ μ) (hφP : φ P = none) (hφpl : φ pl = none) (hfr : ∀ c, z ≤ c → μ c = none) : ∃ μ' φ' z' w', f_Profile_init P μ z w (some pl) (iz el) = some (μ', z', w') ∧ (z + 5 ≤ z' ∧ z' ≤ z + 40 ∧ w ≤ w' ∧ w' ≤ w + 300) ∧ PR0 φ' P b el (pln b) (plq b) ∧ (∃ cf ef bb cb, POb φ' P pl z el cf ef bb cb) ∧ PLR φ' pl (pln b) (plq b) ∧ (∃ f : Nat → Int32, φ' (z + 3) = some (.inl (0, 3, .inl f)) ∧ ∀ k : Nat, k < 3 → f k = iz (whz b k)) ∧ φ' (z + 4) = none ∧ μ' (z + 4) = some (.inl (0, 3, .inl (fun _ => (0 : Int32)))) ∧ Fr φ φ' ∧ Fr φ' μ' ∧ (∀ c, c < z → c ≠ P → c ≠ pl → φ' c = φ c) ∧ (∀ c, c < z → c ≠ P → μ' c = μ c) ∧ (∀ c, z' ≤ c → μ' c = none) ∧ (∀ c, Sc φ' c → Sc φ c ∨ (z + 5 ≤ c ∧ c < z' ∧ φ' c = none ∧ ∃ w, CF μ' c w)) := by
  have hN := pl_n h hn hb
  have h6 := h.2.2.2.2.2.1
  obtain ⟨fp, fp1, fp2⟩ := hpl
  obtain ⟨φ0, eφ0⟩ : ∃ φ0, φ0 = mup φ pl (.inl (0, pln b, .inl fp)) := ⟨_, rfl⟩
  have F0 : Fr φ φ0 := fun c e he => by
    rw [eφ0, mup_ne _ _ (fun q => by rw [q, hφpl] at he; cases he)]
    exact he
  have n0 : ∀ c, c ≠ pl → φ0 c = φ c := fun c hc => by rw [eφ0, mup_ne _ _ hc]
  have npl : φ0 pl = some (.inl (0, pln b, .inl fp)) := by rw [eφ0]; exact mup_self _ _ _
  have φhi : ∀ c, z ≤ c → φ0 c = none := fun c hc => by rw [n0 c (by omega)]; exact hF.none (hfr c hc)
  obtain ⟨m0, S0, P0, a0, a1, a2, a3, a4, o0⟩ := pn_start (pl := pl) (w := w) (el := el) hP hPz
  have hpl0 : PLR m0 pl (pln b) (plq b) := ⟨fp, (o0 _ hpP (Or.inl hplz)).trans fp1, fp2⟩
  -- the offsets
  obtain ⟨m1, S1, O1, o1⟩ := pf_55 h hn hb (P := P) (pl := pl) (Z := z) (el := el) (cf := none) (ef := none) (bb := none) (cb := none) (by omega) (by omega) (fun μ z w y1 => f_Profile_init_90 P μ z w y1) (zz := z + 5) (ww := w + 37) (b 6).toNat 4096 0 m0 (by omega) (by omega) P0 hpl0 ⟨_, a0, fun s _ => by rw [if_neg (by omega)]; rfl⟩
  have F1 : Fr φ0 m1 := fun c e he => by
    have c1 : c ≠ P := fun q => by rw [q, n0 P (Ne.symm hpP), hφP] at he; cases he
    have c2 : c < z := by
      by_cases w : c < z
      · exact w
      · rw [φhi c (by omega)] at he; cases he
    rw [o1 c (by omega), o0 c c1 (Or.inl c2)]
    by_cases c3 : c = pl
    · rw [c3, npl] at he
      rw [c3, fp1]
      exact he
    · rw [n0 c c3] at he
      exact hF _ _ he
  have G1 : GS φ0 φ0 m1 P z (z + 5) := ⟨Fr.rf, F1, fun c hc => by rw [o1 c (by omega), o0 c (by omega) (Or.inr hc)]; exact hfr c (by omega), fun _ _ => rfl, fun c hc => Or.inl hc, Nat.le_refl _, by rw [n0 P (Ne.symm hpP)]; exact hφP, φhi, hPz⟩
  have P1 : POb m1 P pl z el none none none none := (o1 _ (by omega)).trans P0
  have pl1 : PLR m1 pl (pln b) (plq b) := plr_o hpl0 (o1 _ (by omega))
  -- the curves
  obtain ⟨m2, φ2, z2, w2, S2, G2, F2, C2, B2, o2⟩ := pf_92 h hn hb hpP hplz (fun μ z w y1 => f_Profile_init_136 P μ z w y1) 4 4096 1 m1 φ0 (z + 5) (w + 37) (by omega) (by omega) (by omega) G1 P1 pl1 O1 ⟨_, (o1 _ (by omega)).trans a1, fun t t0 t1 => by omega⟩
  have P2 : POb m2 P pl z el none none none none := (o2 _ (by omega) (by omega)).trans P1
  have pl2 : PLR m2 pl (pln b) (plq b) := plr_o pl1 (o2 _ (by omega) (by omega))
  have O2 : OFA m2 z b := by obtain ⟨g, g1, g2⟩ := O1; exact ⟨g, (o2 _ (by omega) (by omega)).trans g1, g2⟩
  -- the white
  obtain ⟨m3, S3, W3, o3⟩ := pf_138 h hn hb (P := P) (pl := pl) (Z := z) (el := el) (cf := none) (ef := none) (bb := none) (cb := none) hpP hplz hPz (fun μ z w y1 => f_Profile_init_190 P μ z w y1) (zz := z2) (ww := w2) 3 4096 0 m2 (by omega) (by omega) P2 pl2 O2 ⟨_, by rw [o2 _ (by omega) (by omega), o1 _ (by omega)]; exact a3, fun k hk => by omega⟩
  have P3 : POb m3 P pl z el none none none none := (o3 _ (by omega)).trans P2
  have pl3 : PLR m3 pl (pln b) (plq b) := plr_o pl2 (o3 _ (by omega))
  have O3 : OFA m3 z b := by obtain ⟨g, g1, g2⟩ := O2; exact ⟨g, (o3 _ (by omega)).trans g1, g2⟩
  have G3 : GS φ0 φ2 m3 P z z2 := gs_mut G2 (fun c c1 c2 => o3 c (by omega))
  -- the grids
  obtain ⟨m4, φ4, z4, w4, S4, G4, F4, R4, B4, o4⟩ := pf_207 h hn hb hpP hplz ⟨fp, npl, fp2⟩ (fun μ z w y1 y3 => f_Profile_init_260 P μ z w y1 y3) 6 4096 6 m3 φ2 z2 w2 (by omega) (by omega) (by omega) G3 P3 pl3 O3 ⟨_, by rw [o3 _ (by omega), o2 _ (by omega) (by omega), o1 _ (by omega)]; exact a2, fun t t0 t1 => by omega⟩
  have P4 : POb m4 P pl z el none none none none := (o4 _ (by omega) (by omega)).trans P3
  have pl4 : PLR m4 pl (pln b) (plq b) := plr_o pl3 (o4 _ (by omega) (by omega))
  have O4 : OFA m4 z b := by obtain ⟨g, g1, g2⟩ := O3; exact ⟨g, (o4 _ (by omega) (by omega)).trans g1, g2⟩
  have C4 : CUA φ4 m4 z b 5 := by
    obtain ⟨f, f1, f2⟩ := C2
    refine ⟨f, by rw [o4 _ (by omega) (by omega), o3 _ (by omega)]; exact f1, fun t t0 t1 => ⟨(f2 t t0 t1).1, fun q => ?_⟩⟩
    obtain ⟨ci, y1, y2⟩ := (f2 t t0 t1).2 q
    exact ⟨ci, y1, y2.mono F4⟩
  -- the ways
  have hφ4 : ∀ c, φ4 c ≠ none → c < z4 ∧ c ≠ P := fun c hc => by
    constructor
    · by_cases w : c < z4
      · exact w
      · exact absurd (gs_lt G4 (by omega)) hc
    · intro q
      rw [q, G4.2.2.2.1 P (by omega), n0 P (Ne.symm hpP), hφP] at hc
      exact hc rfl
  obtain ⟨m5, z5, w5, cf, ef, bb, cb, S5, B5, P5, o5, h5, g5, Q5⟩ := pf_260 h hn hb hpP (z := z4) (w := w4) G4.2.1 (by omega) (by omega) (by omega) hPz P4 pl4 O4 hφ4 C4
  obtain ⟨G5, F5⟩ := gs_all G4 (μ' := m5) (z' := z5) (by omega) (fun c c1 c2 _ => o5 c c1 c2) (fun c hc => by rw [h5 c hc]; exact G4.2.2.1 c (by omega)) g5
  obtain ⟨φ5, eφ5⟩ : ∃ φ5, φ5 = frz φ4 m5 z4 z5 := ⟨_, rfl⟩
  have rf5 : Fr (res m5 z4 z5) φ5 := by rw [eφ5]; exact res_fr φ4 m5 z4 z5
  rw [← eφ5] at G5 F5
  obtain ⟨Q1, Q2⟩ := Q5 φ5 F5 rf5
  obtain ⟨fc, fc1, fc2⟩ := C4
  obtain ⟨fg, fg1, fg2⟩ := R4
  obtain ⟨fw, fw1, fw2⟩ := W3
  have c5 : m5 (z + 1) = _ := (o5 _ (by omega) (by omega)).trans fc1
  have d5 : m5 (z + 2) = _ := (o5 _ (by omega) (by omega)).trans fg1
  have w5' : m5 (z + 3) = _ := (o5 _ (by omega) (by omega)).trans ((o4 _ (by omega) (by omega)).trans fw1)
  have b5 : m5 (z + 4) = some (.inl (0, 3, .inl (fun _ => (0 : Int32)))) := by rw [o5 _ (by omega) (by omega), o4 _ (by omega) (by omega), o3 _ (by omega), o2 _ (by omega) (by omega), o1 _ (by omega)]; exact a4
  -- all that is kept
  obtain ⟨φ6, eφ6⟩ : ∃ φ6 : mM, φ6 = fun c => if c = P ∨ c = z + 1 ∨ c = z + 2 ∨ c = z + 3 then m5 c else φ5 c := ⟨_, rfl⟩
  have y1 : ∀ c, (c = P ∨ c = z + 1 ∨ c = z + 2 ∨ c = z + 3) → φ6 c = m5 c := fun c hc => by rw [eφ6]; exact if_pos hc
  have y2 : ∀ c, ¬ (c = P ∨ c = z + 1 ∨ c = z + 2 ∨ c = z + 3) → φ6 c = φ5 c := fun c hc => by rw [eφ6]; exact if_neg hc
  have F56 : Fr φ5 φ6 := fun c e he => by
    by_cases q : c = P ∨ c = z + 1 ∨ c = z + 2 ∨ c = z + 3
    · exfalso
      have e0 := G5.2.2.2.1 c (by omega)
      rw [e0] at he
      rcases q with q | q
      · rw [q, n0 P (Ne.symm hpP), hφP] at he; cases he
      · rw [φhi c (by omega)] at he; cases he
    · rw [y2 c q]; exact he
  have F6 : Fr φ6 m5 := fun c e he => by
    by_cases q : c = P ∨ c = z + 1 ∨ c = z + 2 ∨ c = z + 3
    · rw [y1 c q] at he; exact he
    · rw [y2 c q] at he; exact G5.2.1 _ _ he
  have p6 : φ6 pl = some (.inl (0, pln b, .inl fp)) := F56 _ _ (G5.1 _ _ npl)
  refine ⟨m5, φ6, z5, w5, ?_, by omega, ?_, ⟨cf, ef, bb, cb, (y1 P (Or.inl rfl)).trans P5⟩, ⟨fp, p6, fp2⟩, ⟨fw, (y1 _ (by omega)).trans w5', fw2⟩, ?_, b5, F0.tr (G5.1.tr F56), F6, fun c c1 c2 c3 => ?_, fun c c1 c2 => ?_, G5.2.2.1, fun c hc => ?_⟩
  · refine S0 _ ?_ (by show z + 5 ≤ z5; omega) (by show w + 37 ≤ w5; omega)
    refine (show _ = _ from S1).trans ?_
    show f_Profile_init_90 P m1 (z + 5) (w + 37) (some pl) = _
    unfold f_Profile_init_90
    refine S2 _ ?_ (by show z2 ≤ z5; omega) (by show w2 ≤ w5; omega)
    show f_Profile_init_136 P m2 z2 w2 (some pl) = _
    unfold f_Profile_init_136
    refine (show _ = _ from S3).trans ?_
    show f_Profile_init_190 P m3 z2 w2 (some pl) = _
    unfold f_Profile_init_190 f_Profile_init_202
    have q3 := plq_h h hn hb (i := 3) (by omega) (by omega)
    have b3 := hb 3
    rw [zi_3, plr_g pl3 (by omega) (by omega) (by omega), Option.bind_some, q3, zi_1, qeq (iR_s (by omega) (by omega)) (iR_s (by omega) (by omega))]
    have S4' := S4 _ S5 (by show z4 ≤ z5; omega) (by show w4 ≤ w5; omega)
    by_cases c3 : b 3 = 1
    · rw [decide_eq_true c3] at S4'
      rw [if_pos c3]
      exact S4'
    · rw [decide_eq_false c3] at S4'
      rw [if_neg c3]
      exact S4'
  · refine ⟨pl, z, z + 1, z + 2, z + 3, z + 4, cf, ef, bb, cb, fp, fc, fg, 3, 4, (y1 P (Or.inl rfl)).trans P5, ⟨p6, fp2, by omega, by omega, plq_h h hn hb (by omega) (by omega), plq_h h hn hb (by omega) (by omega), plq_h h hn hb (by omega) (by omega)⟩, ⟨(y1 _ (by omega)).trans c5, by decide⟩, ⟨(y1 _ (by omega)).trans d5, by decide⟩, fun s s0 s1 => ?_, fun s s0 s1 => ?_, fun e => ?_, fun e => ⟨(Q1.2 e).1, (Q1.2 e).2, (Q2.1 e).1, (Q2.1 e).2⟩, ?_, ?_⟩
    · obtain ⟨v1, v2⟩ := fc2 s s0 (by omega)
      refine ⟨v1, fun q => ?_⟩
      obtain ⟨ci, x1, x2⟩ := v2 q
      exact ⟨ci, x1, x2.mono (F5.tr F56)⟩
    · obtain ⟨v1, v2⟩ := fg2 s s0 (by omega)
      refine ⟨v1, fun q1 q2 => ?_⟩
      obtain ⟨gi, ra, x1, x2⟩ := v2 q1 q2
      exact ⟨gi, ra, x1, gr_mono x2 (F5.tr F56)⟩
    · obtain ⟨⟨a, x1, x2, x3⟩, a', x1', x2', x3'⟩ := Q1.1 e
      exact ⟨⟨a, x1, cs_mono x2 F56, x3.mono F56⟩, a', x1', cs_mono x2' F56, x3'.mono F56⟩
    · exact (Q2.mono F56).2.1
    · exact (Q2.mono F56).2.2
  · rw [y2 _ (by omega), G5.2.2.2.1 _ (by omega)]
    exact φhi _ (by omega)
  · rw [y2 c (by omega), G5.2.2.2.1 c (by omega), n0 c c3]
  · rw [o5 c (by omega) c2, o4 c (by omega) (by omega), o3 c (by omega), o2 c (by omega) (by omega), o1 c (by omega), o0 c c2 (Or.inl c1)]
  · obtain ⟨a, fs, a1', a2'⟩ := hc
    have q : ¬ (a = P ∨ a = z + 1 ∨ a = z + 2 ∨ a = z + 3) := fun q => by
      rw [y1 a q] at a1'
      rcases q with q | q | q | q
      · rw [q, P5] at a1'
        have := (Prod.mk.inj (Sum.inr.inj (Option.some.inj a1'))).1
        omega
      · rw [q, c5] at a1'; cases a1'
      · rw [q, d5] at a1'; cases a1'
      · rw [q, w5'] at a1'; cases a1'
    rw [y2 a q] at a1'
    rcases G5.2.2.2.2.1 c ⟨a, fs, a1', a2'⟩ with s | ⟨s1, s2, s3, s4⟩
    · left
      obtain ⟨a'', fs'', x1, x2⟩ := s
      refine ⟨a'', fs'', ?_, x2⟩
      by_cases e : a'' = pl
      · rw [e, npl] at x1; cases x1
      · rw [n0 a'' e] at x1; exact x1
    · exact Or.inr ⟨by omega, s2, by rw [y2 c (by omega)]; exact s3, s4⟩
end PNW
