/-! A profile being made: its curves' pieces. -/
section ST5
variable {b : Int → Int} {n : Nat} {P pl Z : Nat}
theorem MQ2.mono {φ ψ : mM} {ef bb : Option Nat} (h : MQ2 φ ef bb b) (hf : Fr φ ψ) : MQ2 ψ ef bb b := by
  obtain ⟨h1, h2, h3⟩ := h
  refine ⟨h1, fun c => ?_, fun c1 c2 => ?_⟩
  · obtain ⟨⟨a, a1, a2⟩, a', a1', a2'⟩ := h2 c
    exact ⟨⟨a, a1, hf _ _ a2⟩, a', a1', hf _ _ a2'⟩
  · obtain ⟨⟨a, a1, a2, a3⟩, a', a1', a2', a3'⟩ := h3 c1 c2
    exact ⟨⟨a, a1, a2.mono hf, a3.mono hf⟩, a', a1', a2'.mono hf, a3'.mono hf⟩
def MQ1 (φ : mM) (cf cb : Option Nat) (b : Int → Int) : Prop := (b 3 = 1 ∨ shp b → (∃ a, cf = some a ∧ CS φ a 1 (nch b) b (ocz b) ∧ LO φ a (crO b)) ∧ ∃ a, cb = some a ∧ CS φ a 11 (nch b) b (ocz b) ∧ LO φ a (crO b)) ∧ (¬ (b 3 = 1 ∨ shp b) → cf = none ∧ cb = none)
theorem st_1 {o : Int} (hE : EC b o) : (decide (cg b o = 0 ∧ cn b o = 0)) = decide (b o = 1 ∧ b (o + 1) = 0) := by
  rw [decide_eq_decide]
  unfold cg cn
  rcases hE.2.1 with q | q
  · rw [if_pos q, if_pos q]
    omega
  · rw [if_neg (by omega), if_neg (by omega)]
    omega
theorem st_crO (h : OKB b n) (hn : n ≤ 256) (hb : Byt b) (hc : b 3 = 1 ∨ shp b) : stA (fun i => cg b (ocz b i)) (fun i => cn b (ocz b i)) (nch b).toNat 0 = crO b := by
  have hW := ok_WB h hn hb
  unfold crO
  by_cases c3 : b 3 = 1
  · have e1 : 0 ≤ en b 1 := hW.2.2.2.2.2.2.2.2.2.1 c3
    have en' : (nch b).toNat = 1 := by unfold nch; rw [if_pos c3]; rfl
    have eo : ocz b 0 = da b 1 := by unfold ocz; rw [if_pos c3]
    rw [if_pos c3, en']
    show (decide (cg b (ocz b 0) = 0 ∧ cn b (ocz b 0) = 0) && true) = _
    rw [eo, st_1 (ok_EC h hn hb (by omega) e1).1, Bool.and_true]
    rfl
  · have cs : shp b := by
      rcases hc with q | q
      · exact absurd q c3
      · exact q
    have en' : (nch b).toNat = 3 := by unfold nch; rw [if_neg c3]; rfl
    have eo : ∀ i : Int, ocz b i = da b (2 + i) := fun i => by unfold ocz; rw [if_neg c3]
    rw [if_neg c3, en']
    show (decide (cg b (ocz b 0) = 0 ∧ cn b (ocz b 0) = 0) && (decide (cg b (ocz b 1) = 0 ∧ cn b (ocz b 1) = 0) && (decide (cg b (ocz b 2) = 0 ∧ cn b (ocz b 2) = 0) && true))) = _
    have e0 : ocz b 0 = da b 2 := eo 0
    have e1 : ocz b 1 = da b 3 := eo 1
    have e2 : ocz b 2 = da b 4 := eo 2
    rw [e0, e1, e2, st_1 (ok_EC h hn hb (s := 2) (by omega) cs.1).1, st_1 (ok_EC h hn hb (s := 3) (by omega) cs.2.1).1, st_1 (ok_EC h hn hb (s := 4) (by omega) cs.2.2.1).1, Bool.and_true, ← Bool.and_assoc]
    rfl
theorem pf_369 (h : OKB b n) (hn : n ≤ 256) (hb : Byt b) (hc : b 3 = 1 ∨ shp b) {el : Int} (hpP : pl ≠ P) {φ μ : mM} {z w ra : Nat} (hF : Fr φ μ) (hpz : pl < z) (hPz : P < z) (hZz : Z + 5 ≤ z) (hPZ : P < Z) (hP : POb μ P pl Z el none none none none) (hpl : PLR μ pl (pln b) (plq b)) (hO : OFA μ Z b) (hφ : ∀ c, φ c ≠ none → c < z ∧ c ≠ P) {f : Nat → Option Nat} (hra : μ ra = some (.inl (6, (nch b).toNat, .inr (.inr (.inr (.inr f)))))) (hraz : ra < z) (hraP : ra ≠ P) (hf : ∀ i : Nat, (i : Int) < nch b → ∃ ci, f i = some ci ∧ CV φ ci (cg b (ocz b i)) (cn b (ocz b i)) (cw b (ocz b i)) ∧ EC b (ocz b i)) : ∃ μ' z' w' cf ef bb cb, f_Profile_init_369 P μ z w (some pl) (iz (bI (decide (b 3 = 1)))) (iz (bI (decide (shp b)))) (some ra) = some (μ', z', w') ∧ (z ≤ z' ∧ z' ≤ z + 7 ∧ w ≤ w' ∧ w' ≤ w + 46) ∧ POb μ' P pl Z el cf ef bb cb ∧ (∀ c, c < z → c ≠ P → μ' c = μ c) ∧ (∀ c, z' ≤ c → μ' c = μ c) ∧ (∀ c fs, z ≤ c → c < z' → μ' c ≠ some (.inr (5, fs))) ∧ ∀ φ', Fr φ φ' → Fr (res μ' z z') φ' → φ' ra = μ ra → MQ1 φ' cf cb b ∧ MQ2 φ' ef bb b := by
  have n13 : nch b = 1 ∨ nch b = 3 := by unfold nch; split <;> omega
  obtain ⟨m1, em1⟩ : ∃ m1, m1 = mup μ z (.inr (3, [.int 0, .int 0, .null])) := ⟨_, rfl⟩
  have o1 : ∀ c, c ≠ z → m1 c = μ c := fun c hc => by rw [em1]; exact mup_ne _ _ hc
  have E : ∀ m : mM, (∀ c, c < z → c ≠ P → m c = μ c) → ∀ i : Nat, i < (nch b).toNat → ∃ ci, f i = some ci ∧ CV m ci (cg b (ocz b i)) (cn b (ocz b i)) (cw b (ocz b i)) ∧ (0 ≤ cg b (ocz b i) ∧ cg b (ocz b i) < 256) ∧ 0 ≤ cn b (ocz b i) ∧ cn b (ocz b i) ≤ 24 := by
    intro m ho i hi
    obtain ⟨ci, c1, c2, c3⟩ := hf i (by omega)
    have frm : Fr φ m := fun c e he => by
      obtain ⟨w1, w2⟩ := hφ c (by rw [he]; exact fun q => by cases q)
      rw [ho c w1 w2]
      exact hF _ _ he
    refine ⟨ci, c1, c2.mono frm, ?_, ?_⟩
    · have := c3.2.2.1
      exact ⟨this.1, by have := this.2.1; omega⟩
    · obtain ⟨w1, w2, w3, w4, -⟩ := c3.2.2.1
      by_cases q : cg b (ocz b i) = 0
      · have := w4 q; omega
      · have := w3 (by omega); omega
  have L := st_crO h hn hb hc
  have n1 := cs_new (μ := m1) (a := z) (ra := ra) (n := (nch b).toNat) (f := f) (by rw [em1]; exact mup_self _ _ _) ((o1 _ (by omega)).trans hra) (by omega) (g := fun i => cg b (ocz b i)) (wn := fun i => cn b (ocz b i)) (wd := fun i => cw b (ocz b i)) (E m1 (fun c c1 _ => o1 c (by omega))) (kd := 1)
  rw [L] at n1
  obtain ⟨m2, em2⟩ : ∃ m2, m2 = mup m1 z (.inr (3, [.int (iz 1), .int (iz (bI (crO b))), .ref ra])) := ⟨_, rfl⟩
  rw [← em2] at n1
  have o2 : ∀ c, c ≠ z → m2 c = m1 c := fun c hc => by rw [em2]; exact mup_ne _ _ hc
  have P2 : POb m2 P pl Z el none none none none := ((o2 _ (by omega)).trans (o1 _ (by omega))).trans hP
  obtain ⟨⟨m3, s3, P3, o3⟩, -⟩ := pob_s P2 (some z)
  obtain ⟨m4, em4⟩ : ∃ m4, m4 = mup m3 (z + 1) (.inr (3, [.int 0, .int 0, .null])) := ⟨_, rfl⟩
  have o4 : ∀ c, c ≠ z + 1 → m4 c = m3 c := fun c hc => by rw [em4]; exact mup_ne _ _ hc
  have o14 : ∀ c, c < z → c ≠ P → m4 c = μ c := fun c c1 c2 => by rw [o4 c (by omega), o3 c c2, o2 c (by omega), o1 c (by omega)]
  have n2 := cs_new (μ := m4) (a := z + 1) (ra := ra) (n := (nch b).toNat) (f := f) (by rw [em4]; exact mup_self _ _ _) ((o14 _ hraz hraP).trans hra) (by omega) (g := fun i => cg b (ocz b i)) (wn := fun i => cn b (ocz b i)) (wd := fun i => cw b (ocz b i)) (E m4 o14) (kd := 11)
  rw [L] at n2
  obtain ⟨m5, em5⟩ : ∃ m5, m5 = mup m4 (z + 1) (.inr (3, [.int (iz 11), .int (iz (bI (crO b))), .ref ra])) := ⟨_, rfl⟩
  rw [← em5] at n2
  have o5 : ∀ c, c ≠ z + 1 → m5 c = m4 c := fun c hc => by rw [em5]; exact mup_ne _ _ hc
  have P5 : POb m5 P pl Z el (some z) none none none := ((o5 _ (by omega)).trans (o4 _ (by omega))).trans P3
  obtain ⟨-, -, -, m6, s6, P6, o6⟩ := pob_s P5 (some (z + 1))
  have o16 : ∀ c, c < z → c ≠ P → m6 c = μ c := fun c c1 c2 => by rw [o6 c c2, o5 c (by omega), o14 c c1 c2]
  have hpl6 : PLR m6 pl (pln b) (plq b) := plr_o hpl (o16 _ hpz hpP)
  have hO6 : OFA m6 Z b := by obtain ⟨g, g1, g2⟩ := hO; exact ⟨g, (o16 _ (by omega) (by omega)).trans g1, g2⟩
  obtain ⟨μ', z', w', ef, bb, r1, r2, r3, r4, r5, r6, r7⟩ := pf_413 h hn hb (el := el) (cf := some z) (cb := some (z + 1)) hpP (μ := m6) (z := z + 2) (w := w + 6) (by omega) (by omega) (by omega) hPZ P6 hpl6 hO6
  have az : m6 z = some (.inr (3, [.int (iz 1), .int (iz (bI (crO b))), .ref ra])) := by rw [o6 _ (by omega), o5 _ (by omega), o4 _ (by omega), o3 _ (by omega), em2]; exact mup_self _ _ _
  have az1 : m6 (z + 1) = some (.inr (3, [.int (iz 11), .int (iz (bI (crO b))), .ref ra])) := by rw [o6 _ (by omega), em5]; exact mup_self _ _ _
  have bz : μ' z = _ := (r4 z (by omega) (by omega)).trans az
  have bz1 : μ' (z + 1) = _ := (r4 (z + 1) (by omega) (by omega)).trans az1
  refine ⟨μ', z', w', some z, ef, bb, some (z + 1), ?_, by omega, r3, fun c c1 c2 => by rw [r4 c (by omega) c2, o16 c c1 c2], fun c hc => ?_, fun c fs c1 c2 q => ?_, fun φ' f1 f2 f3 => ⟨⟨fun _ => ⟨⟨z, rfl, ?_, ?_⟩, z + 1, rfl, ?_, ?_⟩, fun q => absurd hc q⟩, r7.mono (fun c e he => ?_)⟩⟩
  · unfold f_Profile_init_369 mnew
    rw [Option.bind_some]
    refine mmV_i (by omega) (by omega) ?_ (by show z + 1 ≤ z'; omega) (by show w + 3 ≤ w'; omega)
    rw [← em1, Option.bind_some, zi_1, n1, Option.bind_some, s3, Option.bind_some, Option.bind_some]
    refine mmV_i (by omega) (by omega) ?_ (by show z + 1 + 1 ≤ z'; omega) (by show w + 3 + 3 ≤ w'; omega)
    rw [← em4, Option.bind_some, zi_11, n2, Option.bind_some, s6, Option.bind_some]
    exact r1
  · rw [r5 c hc, o6 c (by omega), o5 c (by omega), o4 c (by omega), o3 c (by omega), o2 c (by omega), o1 c (by omega)]
  · by_cases e : c = z
    · rw [e, bz] at q
      have := (Prod.mk.inj (Sum.inr.inj (Option.some.inj q))).1
      omega
    · by_cases e2 : c = z + 1
      · rw [e2, bz1] at q
        have := (Prod.mk.inj (Sum.inr.inj (Option.some.inj q))).1
        omega
      · exact r6 c fs (by omega) c2 q
  · refine ⟨_, ra, f, f2 _ _ ((res_i (by omega) (by omega)).trans bz), f3.trans hra, n13, fun i hi => ?_⟩
    obtain ⟨ci, c1, c2, c3⟩ := hf i hi
    exact ⟨ci, c1, c2.mono f1, c3⟩
  · exact ⟨3, _, f2 _ _ ((res_i (by omega) (by omega)).trans bz), rfl⟩
  · refine ⟨_, ra, f, f2 _ _ ((res_i (by omega) (by omega)).trans bz1), f3.trans hra, n13, fun i hi => ?_⟩
    obtain ⟨ci, c1, c2, c3⟩ := hf i hi
    exact ⟨ci, c1, c2.mono f1, c3⟩
  · exact ⟨3, _, f2 _ _ ((res_i (by omega) (by omega)).trans bz1), rfl⟩
  · unfold res at he
    by_cases w : z + 2 ≤ c ∧ c < z'
    · rw [if_pos w] at he
      exact f2 _ _ ((res_i (by omega) (by omega)).trans he)
    · rw [if_neg w] at he
      cases he
end ST5
