/-! The law's beginning: the class's object; all in all. -/
section BEH
def cl0 : List Value := [.null, .null, .int 0, .null, .int 0, .null, .null, .null, .int 0, .null, .int 0]
theorem lx_new {μ : mM} {a : Nat} (h : μ a = some (.inr (6, [.int 0, .int 0]))) {kd : Int} : f_LabXyz_init a μ (iz kd) = some (mup μ a (.inr (6, [.int (iz kd), .int 0]))) := by
  unfold f_LabXyz_init
  rw [Option.bind_some]
  change ((f_Piece_init a μ (iz kd) (iz (bI false))).bind _) = _
  rw [pc_init h rfl (by decide), Option.bind_some]
  rfl
theorem cl_new0 {μ : mM} {X w : Nat} (h : μ X = some (.inr (10, cl0))) : ∃ r, f_CL_init X μ (X + 1) w = some r ∧ r.2.1 = X + 9 ∧ w ≤ r.2.2 ∧ r.2.2 ≤ w + 400 ∧ r.1 X = some (.inr (10, xF X (nI 0) (nI 0) 0 0)) ∧ BU r.1 X 0 (fun _ => 0) ∧ r.1 (X + 3) = some (.inl (3, 6, .inr (.inr (.inr (.inr (fun _ => none)))))) ∧ r.1 (X + 4) = some (.inl (4, 16, .inr (.inr (.inr (.inr (fun _ => none)))))) ∧ r.1 (X + 5) = some (.inr (6, [.int (iz 5), .int 0])) ∧ r.1 (X + 6) = some (.inr (6, [.int (iz 6), .int 0])) ∧ r.1 (X + 7) = some (.inl (5, 32, .inr (.inr (.inr (.inr (fun _ => none)))))) ∧ r.1 (X + 8) = some (.inl (0, 3, .inl (fun _ => (0 : Int32)))) ∧ ∀ c, c < X ∨ X + 9 ≤ c → r.1 c = μ c := by
  have c256 : ((256 : Int32)).toNatClampNeg = 256 := by decide
  -- the buffer
  obtain ⟨m1, e1⟩ : ∃ m, m = mup μ (X + 1) (.inr (1, [.null, .int 0])) := ⟨_, rfl⟩
  obtain ⟨m2, e2⟩ : ∃ m, m = mup m1 (X + 2) (.inl (0, 256, .inl (fun _ => (0 : Int32)))) := ⟨_, rfl⟩
  obtain ⟨m3, e3⟩ : ∃ m, m = mup m2 (X + 1) (.inr (1, [.ref (X + 2), .int 0])) := ⟨_, rfl⟩
  have n2 : mna m1 (X + 2) 0 (256 : Int32) = some m2 := by rw [e2]; exact mna_0 (n := 256) (by decide)
  have p2 : m2 (X + 1) = some (.inr (1, [.null, .int 0])) := by rw [e2, mup_ne _ _ (by omega), e1]; exact mup_self _ _ _
  have s3 : mpA m2 (some (X + 1)) [1] 0 (some (X + 2)) = some m3 := by rw [e3]; exact mpA_i p2 rfl (show 0 < 2 by decide) _
  have sB : f_Buffer_init (X + 1) m1 (X + 2) (w + 2) = some (m3, X + 3, w + 2 + 256) := by
    unfold f_Buffer_init
    refine mmV_i (Nat.le_refl _) (Nat.le_refl _) ?_ (by show X + 2 ≤ X + 3; omega) (by show w + 2 ≤ w + 2 + 256; omega)
    rw [n2, Option.bind_some, c256]
    refine mmV_i (by omega) (by omega) ?_ (by show X + 2 + 1 ≤ X + 3; omega) (by show w + 2 + 256 ≤ w + 2 + 256; omega)
    rw [s3, Option.bind_some]
  have h3 : m3 X = some (.inr (10, cl0)) := by rw [e3, mup_ne _ _ (by omega), e2, mup_ne _ _ (by omega), e1, mup_ne _ _ (by omega)]; exact h
  have o3 : ∀ c, c ≠ X + 1 → c ≠ X + 2 → m3 c = μ c := fun c c1 c2 => by rw [e3, mup_ne _ _ c1, e2, mup_ne _ _ c2, e1, mup_ne _ _ c1]
  obtain ⟨m4, e4⟩ : ∃ m, m = mup m3 X (.inr (10, [.ref (X + 1), .null, .int 0, .null, .int 0, .null, .null, .null, .int 0, .null, .int 0])) := ⟨_, rfl⟩
  have s4 : mpA m3 (some X) [10] 0 (some (X + 1)) = some m4 := by rw [e4]; exact mpA_i h3 rfl (show 0 < 11 by decide) _
  have h4 : m4 X = some (.inr (10, [.ref (X + 1), .null, .int 0, .null, .int 0, .null, .null, .null, .int 0, .null, .int 0])) := by rw [e4]; exact mup_self _ _ _
  have o4 : ∀ c, c ≠ X → m4 c = m3 c := fun c hc => by rw [e4, mup_ne _ _ hc]
  obtain ⟨m5, a5, b5, o5, s5⟩ := in_pair (z := X + 3) (w := w + 2 + 256) (kd := 3) (k := 1) (e := (6 : Int32)) (n := 6) (fs' := [.ref (X + 1), .ref (X + 3), .int 0, .null, .int 0, .null, .null, .null, .int 0, .null, .int 0]) h4 (by omega) (show 1 < 11 by decide) (by decide) rfl rfl
  obtain ⟨m6, a6, b6, o6, s6⟩ := in_pair (z := X + 4) (w := w + 2 + 256 + ((6 : Int32)).toNatClampNeg) (kd := 4) (k := 3) (e := (16 : Int32)) (n := 16) (fs' := [.ref (X + 1), .ref (X + 3), .int 0, .ref (X + 4), .int 0, .null, .null, .null, .int 0, .null, .int 0]) a5 (by omega) (show 3 < 11 by decide) (by decide) rfl rfl
  obtain ⟨m7, e7⟩ : ∃ m, m = mup m6 (X + 5) (.inr (6, [.int 0, .int 0])) := ⟨_, rfl⟩
  obtain ⟨m8, e8⟩ : ∃ m, m = mup m7 (X + 5) (.inr (6, [.int (iz 5), .int 0])) := ⟨_, rfl⟩
  have s8 : f_LabXyz_init (X + 5) m7 (5 : Int32) = some m8 := by
    rw [e8, zi_5]
    exact lx_new (by rw [e7]; exact mup_self _ _ _)
  have h8 : m8 X = some (.inr (10, [.ref (X + 1), .ref (X + 3), .int 0, .ref (X + 4), .int 0, .null, .null, .null, .int 0, .null, .int 0])) := by rw [e8, mup_ne _ _ (by omega), e7, mup_ne _ _ (by omega)]; exact a6
  obtain ⟨m9, e9⟩ : ∃ m, m = mup m8 X (.inr (10, [.ref (X + 1), .ref (X + 3), .int 0, .ref (X + 4), .int 0, .ref (X + 5), .null, .null, .int 0, .null, .int 0])) := ⟨_, rfl⟩
  have s9 : mpA m8 (some X) [10] 5 (some (X + 5)) = some m9 := by rw [e9]; exact mpA_i h8 rfl (show 5 < 11 by decide) _
  obtain ⟨m10, e10⟩ : ∃ m, m = mup m9 (X + 6) (.inr (6, [.int 0, .int 0])) := ⟨_, rfl⟩
  obtain ⟨m11, e11⟩ : ∃ m, m = mup m10 (X + 6) (.inr (6, [.int (iz 6), .int 0])) := ⟨_, rfl⟩
  have s11 : f_LabXyz_init (X + 6) m10 (6 : Int32) = some m11 := by
    rw [e11, zi_6]
    exact lx_new (by rw [e10]; exact mup_self _ _ _)
  have h11 : m11 X = some (.inr (10, [.ref (X + 1), .ref (X + 3), .int 0, .ref (X + 4), .int 0, .ref (X + 5), .null, .null, .int 0, .null, .int 0])) := by rw [e11, mup_ne _ _ (by omega), e10, mup_ne _ _ (by omega), e9]; exact mup_self _ _ _
  obtain ⟨m12, e12⟩ : ∃ m, m = mup m11 X (.inr (10, [.ref (X + 1), .ref (X + 3), .int 0, .ref (X + 4), .int 0, .ref (X + 5), .ref (X + 6), .null, .int 0, .null, .int 0])) := ⟨_, rfl⟩
  have s12 : mpA m11 (some X) [10] 6 (some (X + 6)) = some m12 := by rw [e12]; exact mpA_i h11 rfl (show 6 < 11 by decide) _
  have h12 : m12 X = some (.inr (10, [.ref (X + 1), .ref (X + 3), .int 0, .ref (X + 4), .int 0, .ref (X + 5), .ref (X + 6), .null, .int 0, .null, .int 0])) := by rw [e12]; exact mup_self _ _ _
  obtain ⟨m13, a13, b13, o13, s13⟩ := in_pair (z := X + 7) (w := w + 2 + 256 + ((6 : Int32)).toNatClampNeg + ((16 : Int32)).toNatClampNeg + 2 + 2) (kd := 5) (k := 7) (e := (32 : Int32)) (n := 32) (fs' := [.ref (X + 1), .ref (X + 3), .int 0, .ref (X + 4), .int 0, .ref (X + 5), .ref (X + 6), .ref (X + 7), .int 0, .null, .int 0]) h12 (by omega) (show 7 < 11 by decide) (by decide) rfl rfl
  obtain ⟨m14, a14, b14, o14, s14⟩ := in_pair (z := X + 8) (w := w + 2 + 256 + ((6 : Int32)).toNatClampNeg + ((16 : Int32)).toNatClampNeg + 2 + 2 + ((32 : Int32)).toNatClampNeg) (kd := 0) (k := 9) (e := (3 : Int32)) (n := 3) (fs' := [.ref (X + 1), .ref (X + 3), .int 0, .ref (X + 4), .int 0, .ref (X + 5), .ref (X + 6), .ref (X + 7), .int 0, .ref (X + 8), .int 0]) a13 (by omega) (show 9 < 11 by decide) (by decide) rfl rfl
  have o12 : ∀ c, c ≠ X → c ≠ X + 5 → c ≠ X + 6 → m12 c = m6 c := fun c c1 c2 c3 => by rw [e12, mup_ne _ _ c1, e11, mup_ne _ _ c3, e10, mup_ne _ _ c3, e9, mup_ne _ _ c1, e8, mup_ne _ _ c2, e7, mup_ne _ _ c2]
  have ot : ∀ c, c ≠ X → c ≠ X + 3 → c ≠ X + 4 → c ≠ X + 5 → c ≠ X + 6 → c ≠ X + 7 → c ≠ X + 8 → m14 c = m3 c := fun c c1 c2 c3 c4 c5 c6 c7 => by rw [o14 c c1 c7, o13 c c1 c6, o12 c c1 c4 c5, o6 c c1 c3, o5 c c1 c2, o4 c c1]
  refine ⟨(m14, X + 9, w + 2 + 256 + ((6 : Int32)).toNatClampNeg + ((16 : Int32)).toNatClampNeg + 2 + 2 + ((32 : Int32)).toNatClampNeg + ((3 : Int32)).toNatClampNeg), ?_, rfl, ?_, ?_, a14, ⟨?_, fun _ => 0, ?_, fun i hi => by omega⟩, ?_, ?_, ?_, ?_, ?_, b14, fun c hc => ?_⟩
  · unfold f_CL_init
    refine mmV_i (Nat.le_refl _) (Nat.le_refl _) ?_ (by show X + 1 ≤ X + 9; omega) (by show w ≤ w + 2 + 256 + ((6 : Int32)).toNatClampNeg + ((16 : Int32)).toNatClampNeg + 2 + 2 + ((32 : Int32)).toNatClampNeg + ((3 : Int32)).toNatClampNeg; omega)
    unfold mnew
    rw [Option.bind_some]
    refine mmV_i (by omega) (by omega) ?_ (by show X + 1 + 1 ≤ X + 9; omega) (by show w + 2 ≤ w + 2 + 256 + ((6 : Int32)).toNatClampNeg + ((16 : Int32)).toNatClampNeg + 2 + 2 + ((32 : Int32)).toNatClampNeg + ((3 : Int32)).toNatClampNeg; omega)
    rw [← e1, Option.bind_some]
    change ((f_Buffer_init (X + 1) m1 (X + 2) (w + 2)).bind _) = _
    rw [sB, Option.bind_some]
    refine mmV_i (by show X + 1 + 1 ≤ X + 3; omega) (by show w + 2 ≤ w + 2 + 256; omega) ?_ (by show X + 3 ≤ X + 9; omega) (by show w + 2 + 256 ≤ w + 2 + 256 + ((6 : Int32)).toNatClampNeg + ((16 : Int32)).toNatClampNeg + 2 + 2 + ((32 : Int32)).toNatClampNeg + ((3 : Int32)).toNatClampNeg; omega)
    change ((mpA m3 (some X) [10] 0 (some (X + 1))).bind _) = _
    rw [s4, Option.bind_some]
    refine s5 _ _ ?_ (by show X + 3 + 1 ≤ X + 9; omega) (by show w + 2 + 256 + ((6 : Int32)).toNatClampNeg ≤ w + 2 + 256 + ((6 : Int32)).toNatClampNeg + ((16 : Int32)).toNatClampNeg + 2 + 2 + ((32 : Int32)).toNatClampNeg + ((3 : Int32)).toNatClampNeg; omega)
    refine s6 _ _ ?_ (by show X + 4 + 1 ≤ X + 9; omega) (by show w + 2 + 256 + ((6 : Int32)).toNatClampNeg + ((16 : Int32)).toNatClampNeg ≤ w + 2 + 256 + ((6 : Int32)).toNatClampNeg + ((16 : Int32)).toNatClampNeg + 2 + 2 + ((32 : Int32)).toNatClampNeg + ((3 : Int32)).toNatClampNeg; omega)
    rw [Option.bind_some]
    refine mmV_i (by show X + 5 ≤ X + 5 + 1; omega) (by show w + 2 + 256 + ((6 : Int32)).toNatClampNeg + ((16 : Int32)).toNatClampNeg ≤ w + 2 + 256 + ((6 : Int32)).toNatClampNeg + ((16 : Int32)).toNatClampNeg + 2; omega) ?_ (by show X + 5 + 1 ≤ X + 9; omega) (by show w + 2 + 256 + ((6 : Int32)).toNatClampNeg + ((16 : Int32)).toNatClampNeg + 2 ≤ w + 2 + 256 + ((6 : Int32)).toNatClampNeg + ((16 : Int32)).toNatClampNeg + 2 + 2 + ((32 : Int32)).toNatClampNeg + ((3 : Int32)).toNatClampNeg; omega)
    rw [Option.bind_some]
    change ((f_LabXyz_init (X + 5) (mup m6 (X + 5) (.inr (6, [.int 0, .int 0]))) (5 : Int32)).bind _) = _
    rw [← e7, s8, Option.bind_some]
    change ((mpA m8 (some X) [10] 5 (some (X + 5))).bind _) = _
    rw [s9, Option.bind_some, Option.bind_some]
    refine mmV_i (by show X + 6 ≤ X + 6 + 1; omega) (by show w + 2 + 256 + ((6 : Int32)).toNatClampNeg + ((16 : Int32)).toNatClampNeg + 2 ≤ w + 2 + 256 + ((6 : Int32)).toNatClampNeg + ((16 : Int32)).toNatClampNeg + 2 + 2; omega) ?_ (by show X + 6 + 1 ≤ X + 9; omega) (by show w + 2 + 256 + ((6 : Int32)).toNatClampNeg + ((16 : Int32)).toNatClampNeg + 2 + 2 ≤ w + 2 + 256 + ((6 : Int32)).toNatClampNeg + ((16 : Int32)).toNatClampNeg + 2 + 2 + ((32 : Int32)).toNatClampNeg + ((3 : Int32)).toNatClampNeg; omega)
    rw [Option.bind_some]
    change ((f_LabXyz_init (X + 6) (mup m9 (X + 6) (.inr (6, [.int 0, .int 0]))) (6 : Int32)).bind _) = _
    rw [← e10, s11, Option.bind_some]
    change ((mpA m11 (some X) [10] 6 (some (X + 6))).bind _) = _
    rw [s12, Option.bind_some]
    refine s13 _ _ ?_ (by show X + 7 + 1 ≤ X + 9; omega) (by show w + 2 + 256 + ((6 : Int32)).toNatClampNeg + ((16 : Int32)).toNatClampNeg + 2 + 2 + ((32 : Int32)).toNatClampNeg ≤ w + 2 + 256 + ((6 : Int32)).toNatClampNeg + ((16 : Int32)).toNatClampNeg + 2 + 2 + ((32 : Int32)).toNatClampNeg + ((3 : Int32)).toNatClampNeg; omega)
    refine s14 _ _ ?_ (by show X + 8 + 1 ≤ X + 9; omega) (Nat.le_refl _)
    rfl
  · show w ≤ w + 2 + 256 + ((6 : Int32)).toNatClampNeg + ((16 : Int32)).toNatClampNeg + 2 + 2 + ((32 : Int32)).toNatClampNeg + ((3 : Int32)).toNatClampNeg
    omega
  · show w + 2 + 256 + ((6 : Int32)).toNatClampNeg + ((16 : Int32)).toNatClampNeg + 2 + 2 + ((32 : Int32)).toNatClampNeg + ((3 : Int32)).toNatClampNeg ≤ w + 400
    rw [show ((6 : Int32)).toNatClampNeg = 6 by decide, show ((16 : Int32)).toNatClampNeg = 16 by decide, show ((32 : Int32)).toNatClampNeg = 32 by decide, show ((3 : Int32)).toNatClampNeg = 3 by decide]
    omega
  · show m14 (X + 1) = _
    rw [ot _ (by omega) (by omega) (by omega) (by omega) (by omega) (by omega) (by omega), e3]
    exact mup_self _ _ _
  · show m14 (X + 2) = _
    rw [ot _ (by omega) (by omega) (by omega) (by omega) (by omega) (by omega) (by omega), e3, mup_ne _ _ (by omega), e2]
    exact mup_self _ _ _
  · show m14 (X + 3) = _
    rw [o14 _ (by omega) (by omega), o13 _ (by omega) (by omega), o12 _ (by omega) (by omega) (by omega), o6 _ (by omega) (by omega)]
    exact b5
  · show m14 (X + 4) = _
    rw [o14 _ (by omega) (by omega), o13 _ (by omega) (by omega), o12 _ (by omega) (by omega) (by omega)]
    exact b6
  · show m14 (X + 5) = _
    rw [o14 _ (by omega) (by omega), o13 _ (by omega) (by omega), e12, mup_ne _ _ (by omega), e11, mup_ne _ _ (by omega), e10, mup_ne _ _ (by omega), e9, mup_ne _ _ (by omega), e8]
    exact mup_self _ _ _
  · show m14 (X + 6) = _
    rw [o14 _ (by omega) (by omega), o13 _ (by omega) (by omega), e12, mup_ne _ _ (by omega), e11]
    exact mup_self _ _ _
  · show m14 (X + 7) = _
    rw [o14 _ (by omega) (by omega)]
    exact b13
  · show m14 c = _
    rw [ot c (by omega) (by omega) (by omega) (by omega) (by omega) (by omega) (by omega), o3 c (by omega) (by omega)]
theorem in_new {μ : mM} {X : Nat} (hX : μ X = some (.inr (10, xF X (nI 0) (nI 0) 0 0))) (hU : BU μ X 0 (fun _ => 0)) (h3 : μ (X + 3) = some (.inl (3, 6, .inr (.inr (.inr (.inr (fun _ => none))))))) (h4 : μ (X + 4) = some (.inl (4, 16, .inr (.inr (.inr (.inr (fun _ => none))))))) (h5 : μ (X + 5) = some (.inr (6, [.int (iz 5), .int 0]))) (h6 : μ (X + 6) = some (.inr (6, [.int (iz 6), .int 0]))) (h7 : μ (X + 7) = some (.inl (5, 32, .inr (.inr (.inr (.inr (fun _ => none))))))) (h8 : μ (X + 8) = some (.inl (0, 3, .inl (fun _ => (0 : Int32))))) (hM : Mo μ (X + 9) (fun _ _ => 0) (fun _ _ => 0) (fun _ => 0)) (hf : ∀ c, X + 26 ≤ c → μ c = none) : IN μ X (X + 26) := by
  obtain ⟨φ, eφ⟩ : ∃ φ : mM, φ = fun c => if c = X + 5 ∨ c = X + 6 then μ c else none := ⟨_, rfl⟩
  have n1 : ∀ c, ¬ (c = X + 5 ∨ c = X + 6) → φ c = none := fun c hc => by rw [eφ]; exact if_neg hc
  have n2 : ∀ c, (c = X + 5 ∨ c = X + 6) → φ c = μ c := fun c hc => by rw [eφ]; exact if_pos hc
  have sc : ∀ c, ¬ Sc φ c := fun c ⟨a, fs, a1, a2⟩ => by
    by_cases q : a = X + 5 ∨ a = X + 6
    · rw [n2 a q] at a1
      rcases q with q | q
      · rw [q, h5] at a1
        have := (Prod.mk.inj (Sum.inr.inj (Option.some.inj a1))).1
        omega
      · rw [q, h6] at a1
        have := (Prod.mk.inj (Sum.inr.inj (Option.some.inj a1))).1
        omega
    · rw [n1 a q] at a1
      cases a1
  refine ⟨φ, fun _ _ => 0, fun _ => 0, fun _ => 0, 0, 0, fun _ => (0, 0, 0, 0, false), fun _ => [], fun _ => 0, fun _ => 0, fun _ => 0, 0, 0, fun _ => 0, ?_, ⟨?_, fun i _ => ?_, ⟨by omega, fun k hk => by omega⟩, rfl, rfl, rfl, rfl, fun i hi => by omega⟩, by omega, fun i => ?_⟩
  · refine ⟨⟨⟨0, hX⟩, ⟨_, h4, fun k hk => by omega⟩, ⟨_, h7⟩, fun k hk => by omega, fun i j hi => by omega, fun i j hi => by omega, fun k hk => by omega, fun a e he => ?_, ⟨n1 _ (by omega), n1 _ (by omega), n1 _ (by omega)⟩, ⟨(n2 _ (Or.inl rfl)).trans h5, (n2 _ (Or.inr rfl)).trans h6⟩, hf, by omega, fun p hp => by omega, fun p hp => by omega, fun k hk => by omega, ⟨by omega, by omega⟩, fun k hk => by omega, fun k hk => by omega⟩, ⟨_, h3, fun p hp => by omega⟩, ⟨fun c hc => absurd hc (sc c), n1 _ (by omega), ⟨fun _ => 0, _, h8, fun _ _ => rfl⟩, fun c hc => absurd hc (sc c)⟩, fun c hc => absurd hc (sc c), fun p hp => by omega, fun k hk => by omega, ⟨n1 _ (by omega), n1 _ (by omega), n1 _ (by omega)⟩, fun c c1 c2 => n1 c (by omega), fun k hk => by omega, hU, by omega⟩
    by_cases q : a = X + 5 ∨ a = X + 6
    · rw [n2 a q] at he; exact he
    · rw [n1 a q] at he; cases he
  · exact ⟨fun _ _ => 0, fun _ => 0, [], sB.rf, ⟨fun _ _ => 0, fun _ => 0, fun _ => 0, fun _ => 0, ⟨fun _ _ => 0, hM, rfl, fun _ _ => rfl, fun _ _ => rfl, fun _ _ => rfl⟩, ⟨rfl, rfl, rfl, rfl, rfl, rfl, rfl, rfl⟩, ⟨rfl, rfl, rfl, rfl⟩, rfl, fun k q hq => by simp at hq⟩, by simp⟩
  · show 0 ≤ (0 : Int32).toInt ∧ (0 : Int32).toInt < 256
    decide
  · show (0 : Int) ≤ 0 ∧ (0 : Int) < 256
    omega
end BEH
