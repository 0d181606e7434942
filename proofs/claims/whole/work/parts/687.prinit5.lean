/-! A profile being made: from its flags on. -/
theorem mna_k {μ : mM} {z n k : Nat} (hn : n < 65536) (hk : 3 ≤ k) : mna μ z k (nI n) = some (mup μ z (.inl (k, n, .inr (.inr (.inr (.inr (fun _ => none))))))) := by
  obtain ⟨j, rfl⟩ : ∃ j, k = j + 3 := ⟨k - 3, by omega⟩
  have e3 : (nI n).toNatClampNeg = n := nI_clamp (by omega)
  unfold mna
  rw [if_neg, e3]
  · rfl
  · rw [e3]
    rintro (q | q)
    · rw [nI_iz, zi_0] at q
      have := (iz_lt (iR_s (by omega) (by omega)) (iR_s (by omega) (by omega))).mp q
      omega
    · omega
theorem shp_tree {α : Type} {b4 o2 o3 o4 o5 : Int} (p r : α) : (if b4 = 0 then (if o2 = 0 then r else if o3 = 0 then r else if o4 = 0 then r else if o5 = 0 then r else p) else r) = if o2 ≠ 0 ∧ o3 ≠ 0 ∧ o4 ≠ 0 ∧ o5 ≠ 0 ∧ b4 = 0 then p else r := by
  by_cases c : o2 ≠ 0 ∧ o3 ≠ 0 ∧ o4 ≠ 0 ∧ o5 ≠ 0 ∧ b4 = 0
  · rw [if_pos c, if_pos c.2.2.2.2, if_neg c.1, if_neg c.2.1, if_neg c.2.2.1, if_neg c.2.2.2.1]
  · rw [if_neg c]
    repeat' split
    all_goals first | rfl | (exfalso; omega)
section ST6
variable {b : Int → Int} {n : Nat} {P pl Z : Nat}
theorem cv_cls {μ : mM} {c : Nat} {g wn : Int} {wd : Int → Int} (h : CV μ c g wn wd) : ∃ fs, μ c = some (.inr (2, fs)) := by
  obtain ⟨ad, f, h1, -⟩ := h
  exact ⟨_, h1⟩
theorem pf_318 (h : OKB b n) (hn : n ≤ 256) (hb : Byt b) (hc : b 3 = 1 ∨ shp b) {el : Int} (hpP : pl ≠ P) {φ μ : mM} {z w : Nat} (hF : Fr φ μ) (hpz : pl < z) (hPz : P < z) (hZz : Z + 5 ≤ z) (hPZ : P < Z) (hP : POb μ P pl Z el none none none none) (hpl : PLR μ pl (pln b) (plq b)) (hO : OFA μ Z b) (hφ : ∀ c, φ c ≠ none → c < z ∧ c ≠ P) (hC : CUA φ μ Z b 5) : ∃ μ' z' w' cf ef bb cb, f_Profile_init_318 P μ z w (some pl) (iz (bI (decide (b 3 = 1)))) (iz (bI (decide (shp b)))) = some (μ', z', w') ∧ (z ≤ z' ∧ z' ≤ z + 8 ∧ w ≤ w' ∧ w' ≤ w + 49) ∧ POb μ' P pl Z el cf ef bb cb ∧ (∀ c, c < z → c ≠ P → μ' c = μ c) ∧ (∀ c, z' ≤ c → μ' c = μ c) ∧ (∀ c fs, z ≤ c → c < z' → μ' c ≠ some (.inr (5, fs))) ∧ ∀ φ', Fr φ φ' → Fr (res μ' z z') φ' → MQ1 φ' cf cb b ∧ MQ2 φ' ef bb b := by
  have hW := ok_WB h hn hb
  obtain ⟨f, f1, f2⟩ := hC
  -- the rest is as pf_369 has it, over the row at z
  have fin : ∀ (m : mM) (g : Nat → Option Nat) (k : Nat), (k = 1 ∨ k = 3) → m z = some (.inl (6, (nch b).toNat, .inr (.inr (.inr (.inr g))))) → (∀ c, c ≠ z → m c = μ c) → (∀ i : Nat, (i : Int) < nch b → ∃ ci, g i = some ci ∧ CV φ ci (cg b (ocz b i)) (cn b (ocz b i)) (cw b (ocz b i)) ∧ EC b (ocz b i)) → ∃ μ' z' w' cf ef bb cb, f_Profile_init_369 P m (z + 1) (w + k) (some pl) (iz (bI (decide (b 3 = 1)))) (iz (bI (decide (shp b)))) (some z) = some (μ', z', w') ∧ (z + 1 ≤ z' ∧ z' ≤ z + 8 ∧ w + k ≤ w' ∧ w' ≤ w + 49) ∧ POb μ' P pl Z el cf ef bb cb ∧ (∀ c, c < z → c ≠ P → μ' c = μ c) ∧ (∀ c, z' ≤ c → μ' c = μ c) ∧ (∀ c fs, z ≤ c → c < z' → μ' c ≠ some (.inr (5, fs))) ∧ ∀ φ', Fr φ φ' → Fr (res μ' z z') φ' → MQ1 φ' cf cb b ∧ MQ2 φ' ef bb b := by
    intro m g k hk mz mo hg
    have hFm : Fr φ m := fun c e he => by
      obtain ⟨w1, w2⟩ := hφ c (by rw [he]; exact fun q => by cases q)
      rw [mo c (by omega)]
      exact hF _ _ he
    obtain ⟨μ', z', w', cf, ef, bb, cb, r1, r2, r3, r4, r5, r6, r7⟩ := pf_369 h hn hb hc hpP (z := z + 1) (w := w + k) (ra := z) hFm (by omega) (by omega) (by omega) hPZ ((mo _ (by omega)).trans hP) (plr_o hpl (mo _ (by omega))) (by obtain ⟨g, g1, g2⟩ := hO; exact ⟨g, (mo _ (by omega)).trans g1, g2⟩) (fun c hc => by have := hφ c hc; omega) mz (by omega) (by omega) hg
    have ez : μ' z = m z := r4 z (by omega) (by omega)
    refine ⟨μ', z', w', cf, ef, bb, cb, r1, by omega, r3, fun c c1 c2 => by rw [r4 c (by omega) c2, mo c (by omega)], fun c hc => by rw [r5 c hc, mo c (by omega)], fun c fs c1 c2 q => ?_, fun φ' y1 y2 => r7 φ' y1 (fun c e he => ?_) ?_⟩
    · by_cases e : c = z
      · rw [e, ez, mz] at q
        cases q
      · exact r6 c fs (by omega) c2 q
    · unfold res at he
      by_cases w : z + 1 ≤ c ∧ c < z'
      · rw [if_pos w] at he
        exact y2 _ _ ((res_i (by omega) (by omega)).trans he)
      · rw [if_neg w] at he
        cases he
    · rw [mz]
      exact y2 _ _ ((res_i (by omega) (by omega)).trans (ez.trans mz))
  have getc : ∀ (m : mM) (t : Nat), t < 5 → m (Z + 1) = μ (Z + 1) → mgA m (some (Z + 1)) (nI t) = some (f t) := fun m t ht e => mgA_i (k := 3) (e.trans f1) (by decide) ht (by decide)
  have cvm : ∀ (t : Nat) (ci : Nat) (gg wn : Int) (wd : Int → Int), CV φ ci gg wn wd → ∃ fs, φ ci = some (.inr (2, fs)) ∧ ci < z ∧ ci ≠ P := fun t ci gg wn wd q => by
    obtain ⟨fs, e⟩ := cv_cls q
    have := hφ ci (by rw [e]; exact fun q => by cases q)
    exact ⟨fs, e, this.1, this.2⟩
  unfold f_Profile_init_318
  rw [qbI]
  by_cases c3 : b 3 = 1
  · have e1 : 0 ≤ en b ((1 : Nat) : Int) := hW.2.2.2.2.2.2.2.2.2.1 c3
    obtain ⟨c1, y1, v1⟩ := (f2 1 (by omega) (by omega)).2 e1
    obtain ⟨fs1, k1, k2, k3⟩ := cvm 1 c1 _ _ _ v1
    have enc : nch b = 1 := by unfold nch; rw [if_pos c3]
    obtain ⟨m1, em1⟩ : ∃ m1, m1 = mup μ z (.inl (6, 1, .inr (.inr (.inr (.inr (fun _ => none)))))) := ⟨_, rfl⟩
    have o1 : ∀ c, c ≠ z → m1 c = μ c := fun c hc => by rw [em1]; exact mup_ne _ _ hc
    obtain ⟨m2, em2⟩ : ∃ m2, m2 = mup m1 z (.inl (6, 1, .inr (.inr (.inr (.inr (va_up (fun _ => none) 0 (some c1))))))) := ⟨_, rfl⟩
    have o2 : ∀ c, c ≠ z → m2 c = μ c := fun c hc => by rw [em2, mup_ne _ _ hc, o1 c hc]
    have s2 : msA m1 (some z) (nI 0) (some c1) = some m2 := by rw [em2]; exact msA_i (k := 3) (by rw [em1]; exact mup_self _ _ _) (by decide) (by decide) (by decide) ((o1 _ (by omega)).trans (hF _ _ k1)) (by decide)
    obtain ⟨μ', z', w', cf, ef, bb, cb, r1, r2, r3⟩ := fin m2 _ 1 (Or.inl rfl) (by rw [enc, em2]; exact mup_self _ _ _) o2 (fun i hi => by
      obtain rfl : i = 0 := by omega
      have eo : ocz b ((0 : Nat) : Int) = da b 1 := by unfold ocz; rw [if_pos c3]
      rw [eo]
      exact ⟨c1, by simp [va_up], v1, (ok_EC h hn hb (s := 1) (by omega) e1).1⟩)
    refine ⟨μ', z', w', cf, ef, bb, cb, ?_, by omega, r3⟩
    rw [decide_eq_true c3, if_pos rfl]
    rw [decide_eq_true c3] at r1
    change ((mna μ z 6 (nI 1)).bind _) = _
    rw [mna_k (by decide) (by decide), Option.bind_some, ← em1, show ((1 : Int32)).toNatClampNeg = 1 by decide]
    refine mmV_i (by omega) (by omega) ?_ (by show z + 1 ≤ z'; omega) (by show w + 1 ≤ w'; omega)
    rw [(pob_e (show POb m1 P pl Z el none none none none from (o1 _ (by omega)).trans hP)).2.1, Option.bind_some]
    change ((mgA m1 (some (Z + 1)) (nI 1)).bind _) = _
    rw [getc m1 1 (by omega) (o1 _ (by omega)), Option.bind_some, y1]
    change ((msA m1 (some z) (nI 0) (some c1)).bind _) = _
    rw [s2, Option.bind_some]
    exact r1
  · have cs : shp b := by
      rcases hc with q | q
      · exact absurd q c3
      · exact q
    have e2 : 0 ≤ en b ((2 : Nat) : Int) := cs.1
    have e3 : 0 ≤ en b ((3 : Nat) : Int) := cs.2.1
    have e4 : 0 ≤ en b ((4 : Nat) : Int) := cs.2.2.1
    obtain ⟨c2, y2, v2⟩ := (f2 2 (by omega) (by omega)).2 e2
    obtain ⟨c3', y3, v3⟩ := (f2 3 (by omega) (by omega)).2 e3
    obtain ⟨c4, y4, v4⟩ := (f2 4 (by omega) (by omega)).2 e4
    obtain ⟨fs2, k2, k2', -⟩ := cvm 2 c2 _ _ _ v2
    obtain ⟨fs3, k3, k3', -⟩ := cvm 3 c3' _ _ _ v3
    obtain ⟨fs4, k4, k4', -⟩ := cvm 4 c4 _ _ _ v4
    have enc : nch b = 3 := by unfold nch; rw [if_neg c3]
    have eo : ∀ i : Int, ocz b i = da b (2 + i) := fun i => by unfold ocz; rw [if_neg c3]
    obtain ⟨m1, em1⟩ : ∃ m1, m1 = mup μ z (.inl (6, 3, .inr (.inr (.inr (.inr (fun _ => none)))))) := ⟨_, rfl⟩
    have o1 : ∀ c, c ≠ z → m1 c = μ c := fun c hc => by rw [em1]; exact mup_ne _ _ hc
    obtain ⟨m2, em2⟩ : ∃ m2, m2 = mup m1 z (.inl (6, 3, .inr (.inr (.inr (.inr (va_up (fun _ => none) 0 (some c2))))))) := ⟨_, rfl⟩
    have o2 : ∀ c, c ≠ z → m2 c = μ c := fun c hc => by rw [em2, mup_ne _ _ hc, o1 c hc]
    obtain ⟨m3, em3⟩ : ∃ m3, m3 = mup m2 z (.inl (6, 3, .inr (.inr (.inr (.inr (va_up (va_up (fun _ => none) 0 (some c2)) 1 (some c3'))))))) := ⟨_, rfl⟩
    have o3 : ∀ c, c ≠ z → m3 c = μ c := fun c hc => by rw [em3, mup_ne _ _ hc, o2 c hc]
    obtain ⟨m4, em4⟩ : ∃ m4, m4 = mup m3 z (.inl (6, 3, .inr (.inr (.inr (.inr (va_up (va_up (va_up (fun _ => none) 0 (some c2)) 1 (some c3')) 2 (some c4))))))) := ⟨_, rfl⟩
    have o4 : ∀ c, c ≠ z → m4 c = μ c := fun c hc => by rw [em4, mup_ne _ _ hc, o3 c hc]
    have s2 : msA m1 (some z) (nI 0) (some c2) = some m2 := by rw [em2]; exact msA_i (k := 3) (by rw [em1]; exact mup_self _ _ _) (by decide) (by decide) (by decide) ((o1 _ (by omega)).trans (hF _ _ k2)) (by decide)
    have s3 : msA m2 (some z) (nI 1) (some c3') = some m3 := by rw [em3]; exact msA_i (k := 3) (by rw [em2]; exact mup_self _ _ _) (by decide) (by decide) (by decide) ((o2 _ (by omega)).trans (hF _ _ k3)) (by decide)
    have s4 : msA m3 (some z) (nI 2) (some c4) = some m4 := by rw [em4]; exact msA_i (k := 3) (by rw [em3]; exact mup_self _ _ _) (by decide) (by decide) (by decide) ((o3 _ (by omega)).trans (hF _ _ k4)) (by decide)
    obtain ⟨μ', z', w', cf, ef, bb, cb, r1, r2, r3⟩ := fin m4 _ 3 (Or.inr rfl) (by rw [enc, em4]; exact mup_self _ _ _) o4 (fun i hi => by
      rw [enc] at hi
      have ei : i = 0 ∨ i = 1 ∨ i = 2 := by omega
      rcases ei with rfl | rfl | rfl
      · rw [show ocz b ((0 : Nat) : Int) = da b 2 from eo 0]
        exact ⟨c2, by simp [va_up], v2, (ok_EC h hn hb (s := 2) (by omega) e2).1⟩
      · rw [show ocz b ((1 : Nat) : Int) = da b 3 from eo 1]
        exact ⟨c3', by simp [va_up], v3, (ok_EC h hn hb (s := 3) (by omega) e3).1⟩
      · rw [show ocz b ((2 : Nat) : Int) = da b 4 from eo 2]
        exact ⟨c4, by simp [va_up], v4, (ok_EC h hn hb (s := 4) (by omega) e4).1⟩)
    refine ⟨μ', z', w', cf, ef, bb, cb, ?_, by omega, r3⟩
    rw [decide_eq_false c3, if_neg (by decide)]
    rw [decide_eq_false c3] at r1
    have pP : ∀ m : mM, m P = μ P → mfA m (some P) [9] 3 = some (some (Z + 1)) := fun m e => (pob_e (show POb m P pl Z el none none none none from e.trans hP)).2.1
    change ((mna μ z 6 (nI 3)).bind _) = _
    rw [mna_k (by decide) (by decide), Option.bind_some, ← em1, show ((3 : Int32)).toNatClampNeg = 3 by decide]
    refine mmV_i (by omega) (by omega) ?_ (by show z + 1 ≤ z'; omega) (by show w + 3 ≤ w'; omega)
    rw [pP m1 (o1 _ (by omega)), Option.bind_some]
    change ((mgA m1 (some (Z + 1)) (nI 2)).bind _) = _
    rw [getc m1 2 (by omega) (o1 _ (by omega)), Option.bind_some, y2]
    change ((msA m1 (some z) (nI 0) (some c2)).bind _) = _
    rw [s2, Option.bind_some, pP m2 (o2 _ (by omega)), Option.bind_some]
    change ((mgA m2 (some (Z + 1)) (nI 3)).bind _) = _
    rw [getc m2 3 (by omega) (o2 _ (by omega)), Option.bind_some, y3]
    change ((msA m2 (some z) (nI 1) (some c3')).bind _) = _
    rw [s3, Option.bind_some, pP m3 (o3 _ (by omega)), Option.bind_some]
    change ((mgA m3 (some (Z + 1)) (nI 4)).bind _) = _
    rw [getc m3 4 (by omega) (o3 _ (by omega)), Option.bind_some, y4]
    change ((msA m3 (some z) (nI 2) (some c4)).bind _) = _
    rw [s4, Option.bind_some]
    exact r1
theorem pf_260 (h : OKB b n) (hn : n ≤ 256) (hb : Byt b) {el : Int} (hpP : pl ≠ P) {φ μ : mM} {z w : Nat} (hF : Fr φ μ) (hpz : pl < z) (hPz : P < z) (hZz : Z + 5 ≤ z) (hPZ : P < Z) (hP : POb μ P pl Z el none none none none) (hpl : PLR μ pl (pln b) (plq b)) (hO : OFA μ Z b) (hφ : ∀ c, φ c ≠ none → c < z ∧ c ≠ P) (hC : CUA φ μ Z b 5) : ∃ μ' z' w' cf ef bb cb, f_Profile_init_260 P μ z w (some pl) (iz (bI (decide (b 3 = 1)))) = some (μ', z', w') ∧ (z ≤ z' ∧ z' ≤ z + 8 ∧ w ≤ w' ∧ w' ≤ w + 49) ∧ POb μ' P pl Z el cf ef bb cb ∧ (∀ c, c < z → c ≠ P → μ' c = μ c) ∧ (∀ c, z' ≤ c → μ' c = μ c) ∧ (∀ c fs, z ≤ c → c < z' → μ' c ≠ some (.inr (5, fs))) ∧ ∀ φ', Fr φ φ' → Fr (res μ' z z') φ' → MQ1 φ' cf cb b ∧ MQ2 φ' ef bb b := by
  have hN := pl_n h hn hb
  have q4 := plq_h h hn hb (i := 4) (by omega) (by omega)
  have b4 := hb 4
  have og : ∀ s : Nat, s < 13 → mgI μ (some Z) (iz s) = some (iz (ofs b s)) := fun s hs => by
    have := ofa_g hO (s := (s : Int)) (by omega) (by omega)
    rw [Int.toNat_natCast] at this
    exact this
  have g2 : mgI μ (some Z) (iz 2) = some (iz (ofs b 2)) := og 2 (by omega)
  have g3 : mgI μ (some Z) (iz 3) = some (iz (ofs b 3)) := og 3 (by omega)
  have g4 : mgI μ (some Z) (iz 4) = some (iz (ofs b 4)) := og 4 (by omega)
  have g5 : mgI μ (some Z) (iz 5) = some (iz (ofs b 5)) := og 5 (by omega)
  have z2 : ofs b 2 = 0 ↔ en b 2 < 0 := ofs_0 h hn hb 2
  have z3 : ofs b 3 = 0 ↔ en b 3 < 0 := ofs_0 h hn hb 3
  have z4 : ofs b 4 = 0 ↔ en b 4 < 0 := ofs_0 h hn hb 4
  have z5 : ofs b 5 = 0 ↔ en b 5 < 0 := ofs_0 h hn hb 5
  have R2 := ofs_R h hn hb 2
  have R3 := ofs_R h hn hb 3
  have R4 := ofs_R h hn hb 4
  have R5 := ofs_R h hn hb 5
  have e260 : f_Profile_init_260 P μ z w (some pl) (iz (bI (decide (b 3 = 1)))) = f_Profile_init_307 P μ z w (some pl) (iz (bI (decide (b 3 = 1)))) (iz (bI (decide (shp b)))) := by
    unfold f_Profile_init_260 f_Profile_init_306
    rw [zi_4, plr_g hpl (by omega) (by omega) (by omega), Option.bind_some, q4, (pob_e hP).1, Option.bind_some, zi_2, g2, Option.bind_some, Option.bind_some, zi_3, g3, Option.bind_some, Option.bind_some, g4, Option.bind_some, Option.bind_some, zi_5, g5, Option.bind_some, zi_1, zi_0]
    simp only [ieq (a := b 4) (b := 0) (iR_s (by omega) (by omega)) (iR_s (by omega) (by omega)), ieq (a := ofs b 2) (b := 0) (iR_s (by omega) (by omega)) (iR_s (by omega) (by omega)), ieq (a := ofs b 3) (b := 0) (iR_s (by omega) (by omega)) (iR_s (by omega) (by omega)), ieq (a := ofs b 4) (b := 0) (iR_s (by omega) (by omega)) (iR_s (by omega) (by omega)), ieq (a := ofs b 5) (b := 0) (iR_s (by omega) (by omega)) (iR_s (by omega) (by omega))]
    rw [shp_tree]
    by_cases cs : shp b
    · obtain ⟨w1, w2, w3, w4, w5⟩ := cs
      rw [decide_eq_true (show shp b from ⟨w1, w2, w3, w4, w5⟩), if_pos (by omega)]
      rfl
    · have cs' : ¬ (0 ≤ en b 2 ∧ 0 ≤ en b 3 ∧ 0 ≤ en b 4 ∧ 0 ≤ en b 5 ∧ b 4 = 0) := cs
      rw [decide_eq_false cs, if_neg (by omega)]
      rfl
  rw [e260]
  unfold f_Profile_init_307
  rw [qbI, qbI]
  by_cases hc : b 3 = 1 ∨ shp b
  · have e : (if decide (b 3 = 1) = true then f_Profile_init_318 P μ z w (some pl) (iz (bI (decide (b 3 = 1)))) (iz (bI (decide (shp b)))) else if decide (shp b) = true then f_Profile_init_318 P μ z w (some pl) (iz (bI (decide (b 3 = 1)))) (iz (bI (decide (shp b)))) else (mpA μ (some P) [9] 5 none).bind fun m52 => (mpA m52 (some P) [9] 8 none).bind fun m53 => f_Profile_init_413 P m53 z w (some pl) (iz (bI (decide (b 3 = 1)))) (iz (bI (decide (shp b))))) = f_Profile_init_318 P μ z w (some pl) (iz (bI (decide (b 3 = 1)))) (iz (bI (decide (shp b)))) := by
      by_cases c3 : b 3 = 1
      · rw [if_pos (decide_eq_true c3)]
      · rw [if_neg (fun q => c3 (of_decide_eq_true q)), if_pos (decide_eq_true (hc.resolve_left c3))]
    rw [e]
    exact pf_318 h hn hb hc hpP hF hpz hPz hZz hPZ hP hpl hO hφ hC
  · rw [if_neg (fun q => hc (Or.inl (of_decide_eq_true q))), if_neg (fun q => hc (Or.inr (of_decide_eq_true q)))]
    obtain ⟨⟨m1, s1, P1, o1⟩, -⟩ := pob_s hP none
    obtain ⟨-, -, -, m2, s2, P2, o2⟩ := pob_s P1 none
    have o12 : ∀ c, c ≠ P → m2 c = μ c := fun c hc => by rw [o2 c hc, o1 c hc]
    obtain ⟨μ', z', w', ef, bb, r1, r2, r3, r4, r5, r6, r7⟩ := pf_413 h hn hb (el := el) (cf := none) (cb := none) hpP (μ := m2) (z := z) (w := w) hpz hPz hZz hPZ P2 (plr_o hpl (o12 _ hpP)) (by obtain ⟨g, g1, g2⟩ := hO; exact ⟨g, (o12 _ (by omega)).trans g1, g2⟩)
    refine ⟨μ', z', w', none, ef, bb, none, ?_, by omega, r3, fun c c1 c2 => by rw [r4 c c1 c2, o12 c c2], fun c hc => by rw [r5 c hc, o12 c (by omega)], r6, fun φ' y1 y2 => ⟨⟨fun q => absurd q hc, fun _ => ⟨rfl, rfl⟩⟩, r7.mono y2⟩⟩
    rw [s1, Option.bind_some, s2, Option.bind_some]
    exact r1
end ST6
