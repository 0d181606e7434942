/-! A profile being made: the pieces of its ways. -/
def res (μ : mM) (z z' : Nat) : mM := fun c => if z ≤ c ∧ c < z' then μ c else none
def frz (φ μ : mM) (z z' : Nat) : mM := fun c => if z ≤ c ∧ c < z' then μ c else φ c
theorem res_i {μ : mM} {z z' c : Nat} (h1 : z ≤ c) (h2 : c < z') : res μ z z' c = μ c := if_pos ⟨h1, h2⟩
section GSY
variable {φ0 φ μ : mM} {P Z z : Nat}
theorem gs_all (h : GS φ0 φ μ P Z z) {μ' : mM} {z' : Nat} (hz : z ≤ z') (ho : ∀ c, c < z → c ≠ P → ¬ (Z ≤ c ∧ c < Z + 5) → μ' c = μ c) (hf : ∀ c, z' ≤ c → μ' c = none) (hg : ∀ c fs, z ≤ c → c < z' → μ' c ≠ some (.inr (5, fs))) : GS φ0 (frz φ μ' z z') μ' P Z z' ∧ Fr φ (frz φ μ' z z') := by
  refine gs_up h hz ho hf (fun c hc => if_neg (by omega)) (fun c e hc he => ?_) (fun a fs r ha he _ => ?_)
  · by_cases w : c < z'
    · rw [← he]
      exact (if_pos ⟨hc, w⟩).symm
    · rw [show frz φ μ' z z' c = φ c from if_neg (by omega), gs_lt h hc] at he
      cases he
  · by_cases w : a < z'
    · rw [show frz φ μ' z z' a = μ' a from if_pos ⟨ha, w⟩] at he
      exact absurd he (hg a fs ha w)
    · rw [show frz φ μ' z z' a = φ a from if_neg (by omega), gs_lt h ha] at he
      cases he
theorem res_fr (φ μ : mM) (z z' : Nat) : Fr (res μ z z') (frz φ μ z z') := by
  intro c e he
  unfold res at he
  by_cases w : z ≤ c ∧ c < z'
  · rw [if_pos w] at he
    rw [← he]
    exact if_pos w
  · rw [if_neg w] at he
    cases he
end GSY
theorem MX.mono {φ ψ : mM} {a : Nat} {kd d : Int} {f : Int → Int} (h : MX φ a kd f d) (hf : Fr φ ψ) : MX ψ a kd f d := by
  obtain ⟨lo, fa, g, h1, h2, h3⟩ := h
  exact ⟨lo, fa, g, hf _ _ h1, hf _ _ h2, h3⟩
section ST4
variable {b : Int → Int} {n : Nat} {P pl Z : Nat}
theorem pob_s {μ : mM} {el : Int} {cf ef bb cb : Option Nat} (h : POb μ P pl Z el cf ef bb cb) (x : Option Nat) : (∃ μ', mpA μ (some P) [9] 5 x = some μ' ∧ POb μ' P pl Z el x ef bb cb ∧ ∀ c, c ≠ P → μ' c = μ c) ∧ (∃ μ', mpA μ (some P) [9] 6 x = some μ' ∧ POb μ' P pl Z el cf x bb cb ∧ ∀ c, c ≠ P → μ' c = μ c) ∧ (∃ μ', mpA μ (some P) [9] 7 x = some μ' ∧ POb μ' P pl Z el cf ef x cb ∧ ∀ c, c ≠ P → μ' c = μ c) ∧ (∃ μ', mpA μ (some P) [9] 8 x = some μ' ∧ POb μ' P pl Z el cf ef bb x ∧ ∀ c, c ≠ P → μ' c = μ c) := by
  refine ⟨⟨_, mpA_i h rfl (show 5 < 11 by decide) x, mup_self _ _ _, fun c hc => mup_ne _ _ hc⟩, ⟨_, mpA_i h rfl (show 6 < 11 by decide) x, mup_self _ _ _, fun c hc => mup_ne _ _ hc⟩, ⟨_, mpA_i h rfl (show 7 < 11 by decide) x, mup_self _ _ _, fun c hc => mup_ne _ _ hc⟩, ⟨_, mpA_i h rfl (show 8 < 11 by decide) x, mup_self _ _ _, fun c hc => mup_ne _ _ hc⟩⟩
/-- the ends of the ways -/
def MQ2 (ρ : mM) (ef bb : Option Nat) (b : Int → Int) : Prop := (¬ (b 3 = 1 ∨ shp b) → ef = none ∧ bb = none) ∧ (b 3 = 1 → (∃ a, ef = some a ∧ GY ρ a 4 (b 4)) ∧ ∃ a, bb = some a ∧ GY ρ a 9 (b 4)) ∧ (b 3 ≠ 1 → shp b → (∃ a, ef = some a ∧ MX ρ a 2 (mxz b (da b 5)) 4096 ∧ LO ρ a (mun b)) ∧ ∃ a, bb = some a ∧ MX ρ a 10 (turz (mxz b (da b 5))) (detz (mxz b (da b 5))) ∧ LO ρ a (mun b))
theorem mxz_B (hb : Byt b) (o i : Int) : -32768 ≤ mxz b o i ∧ mxz b o i ≤ 32768 := by
  have y1 := hb (o + 2 + 2 * i)
  have y2 := hb (o + 2 + 2 * i + 1)
  unfold mxz wz
  split <;> omega
theorem pf_413 (h : OKB b n) (hn : n ≤ 256) (hb : Byt b) {el : Int} {cf cb : Option Nat} (hpP : pl ≠ P) {μ : mM} {z w : Nat} (hpz : pl < z) (hPz : P < z) (hZz : Z + 5 ≤ z) (hPZ : P < Z) (hP : POb μ P pl Z el cf none none cb) (hpl : PLR μ pl (pln b) (plq b)) (hO : OFA μ Z b) : ∃ μ' z' w' ef bb, f_Profile_init_413 P μ z w (some pl) (iz (bI (decide (b 3 = 1)))) (iz (bI (decide (shp b)))) = some (μ', z', w') ∧ (z ≤ z' ∧ z' ≤ z + 5 ∧ w ≤ w' ∧ w' ≤ w + 40) ∧ POb μ' P pl Z el cf ef bb cb ∧ (∀ c, c < z → c ≠ P → μ' c = μ c) ∧ (∀ c, z' ≤ c → μ' c = μ c) ∧ (∀ c fs, z ≤ c → c < z' → μ' c ≠ some (.inr (5, fs))) ∧ MQ2 (res μ' z z') ef bb b := by
  have hN := pl_n h hn hb
  have q4 := plq_h h hn hb (i := 4) (by omega) (by omega)
  have b4 := hb 4
  unfold f_Profile_init_413
  rw [qbI]
  by_cases c3 : b 3 = 1
  · rw [decide_eq_true c3, if_pos rfl]
    obtain ⟨m1, em1⟩ : ∃ m1, m1 = mup μ z (.inr (4, [.int 0, .int 0, .int 0])) := ⟨_, rfl⟩
    have o1 : ∀ c, c ≠ z → m1 c = μ c := fun c hc => by rw [em1]; exact mup_ne _ _ hc
    obtain ⟨m2, em2⟩ : ∃ m2, m2 = mup m1 z (.inr (4, [.int (iz 4), .int 0, .int (iz (b 4))])) := ⟨_, rfl⟩
    have o2 : ∀ c, c ≠ z → m2 c = m1 c := fun c hc => by rw [em2]; exact mup_ne _ _ hc
    have P2 : POb m2 P pl Z el cf none none cb := ((o2 _ (by omega)).trans (o1 _ (by omega))).trans hP
    obtain ⟨-, ⟨m3, s3, P3, o3⟩, -⟩ := pob_s P2 (some z)
    obtain ⟨m4, em4⟩ : ∃ m4, m4 = mup m3 (z + 1) (.inr (4, [.int 0, .int 0, .int 0])) := ⟨_, rfl⟩
    have o4 : ∀ c, c ≠ z + 1 → m4 c = m3 c := fun c hc => by rw [em4]; exact mup_ne _ _ hc
    obtain ⟨m5, em5⟩ : ∃ m5, m5 = mup m4 (z + 1) (.inr (4, [.int (iz 9), .int 0, .int (iz (b 4))])) := ⟨_, rfl⟩
    have o5 : ∀ c, c ≠ z + 1 → m5 c = m4 c := fun c hc => by rw [em5]; exact mup_ne _ _ hc
    have P5 : POb m5 P pl Z el cf (some z) none cb := ((o5 _ (by omega)).trans (o4 _ (by omega))).trans P3
    obtain ⟨-, -, ⟨m6, s6, P6, o6⟩, -⟩ := pob_s P5 (some (z + 1))
    have hz : m6 z = some (.inr (4, [.int (iz 4), .int 0, .int (iz (b 4))])) := by
      rw [o6 _ (by omega), o5 _ (by omega), o4 _ (by omega), o3 _ (by omega), em2]
      exact mup_self _ _ _
    have hz1 : m6 (z + 1) = some (.inr (4, [.int (iz 9), .int 0, .int (iz (b 4))])) := by
      rw [o6 _ (by omega), em5]
      exact mup_self _ _ _
    refine ⟨m6, z + 2, w + 6, some z, some (z + 1), ?_, by omega, P6, fun c c1 c2 => ?_, fun c hc => ?_, fun c fs c1 c2 q => ?_, ⟨fun q => absurd (Or.inl c3) q, fun _ => ⟨⟨z, rfl, (res_i (by omega) (by omega)).trans hz⟩, z + 1, rfl, (res_i (by omega) (by omega)).trans hz1⟩, fun q => absurd c3 q⟩⟩
    · unfold mnew
      rw [Option.bind_some]
      refine mmV_i (by omega) (by omega) ?_ (by show z + 1 ≤ z + 2; omega) (by show w + 3 ≤ w + 6; omega)
      rw [← em1, zi_4, plr_g (plr_o hpl (o1 _ (by omega))) (by omega) (by omega) (by omega), Option.bind_some, q4, Option.bind_some, gy_new (by rw [em1]; exact mup_self _ _ _), Option.bind_some, ← em2, s3, Option.bind_some, Option.bind_some]
      refine mmV_i (by omega) (by omega) ?_ (by show z + 1 + 1 ≤ z + 2; omega) (by show w + 3 + 3 ≤ w + 6; omega)
      rw [← em4, plr_g (plr_o hpl (by rw [o4 _ (by omega), o3 _ hpP, o2 _ (by omega), o1 _ (by omega)])) (by omega) (by omega) (by omega), Option.bind_some, q4, Option.bind_some, zi_9, gy_new (by rw [em4]; exact mup_self _ _ _), Option.bind_some, ← em5, s6, Option.bind_some]
      rfl
    · rw [o6 c c2, o5 c (by omega), o4 c (by omega), o3 c c2, o2 c (by omega), o1 c (by omega)]
    · rw [o6 c (by omega), o5 c (by omega), o4 c (by omega), o3 c (by omega), o2 c (by omega), o1 c (by omega)]
    · by_cases e : c = z
      · rw [e, hz] at q
        have := (Prod.mk.inj (Sum.inr.inj (Option.some.inj q))).1
        omega
      · rw [show c = z + 1 by omega, hz1] at q
        have := (Prod.mk.inj (Sum.inr.inj (Option.some.inj q))).1
        omega
  · rw [decide_eq_false c3, if_neg (by decide), qbI]
    by_cases cs : shp b
    · rw [decide_eq_true cs, if_pos rfl]
      have hp : 0 ≤ en b ((5 : Nat) : Int) := cs.2.2.2.1
      obtain ⟨d1, d2, d3, d4⟩ := pd_ok h hn hb hp
      have hl : ln b ((5 : Nat) : Int) = 20 := (ok_EM h hn hp).2
      have eo : ofs b 5 = pld b 5 := by unfold ofs; rw [if_pos hp]
      have og : mgI μ (some Z) (iz 5) = some (iz (pld b 5)) := by
        rw [← eo]
        exact ofa_g hO (s := 5) (by omega) (by omega)
      have hW : ∀ i, 0 ≤ i → i < 9 → wz (plq b) (pld b 5 + 2 + 2 * i) = wz b (da b 5 + 2 + 2 * i) := fun i i0 i1 => by
        have e := pd_w h hn hb hp (i := 2 + 2 * i) (by omega) (by omega)
        rw [show pld b 5 + 2 + 2 * i = pld b 5 + (2 + 2 * i) by omega, e]
        show wz b (da b 5 + (2 + 2 * i)) = _
        congr 1
        omega
      obtain ⟨m1, s1, l1, x1, o1⟩ := mx_forth hpl (by omega) (plq_R h hn hb) (z := z) (w := w) (by omega) (off := pld b 5) (o := da b 5) (by omega) (by omega) hW (mxz_B hb _)
      have P1 : POb m1 P pl Z el cf none none cb := (o1 _ (by omega) (by omega)).trans hP
      obtain ⟨-, ⟨m2, s2, P2, o2⟩, -⟩ := pob_s P1 (some (z + 1))
      have hpl2 : PLR m2 pl (pln b) (plq b) := plr_o hpl (by rw [o2 _ hpP, o1 _ (by omega) (by omega)])
      obtain ⟨m3, s3, l2, l3, x3, o3⟩ := mx_back hpl2 (by omega) (plq_R h hn hb) (z := z + 2) (w := w + 13) (by omega) (off := pld b 5) (o := da b 5) (by omega) (by omega) hW (mxz_B hb _)
      have P3 : POb m3 P pl Z el cf (some (z + 1)) none cb := (o3 _ (by omega) (by omega) (by omega)).trans P2
      obtain ⟨-, -, ⟨m4, s4, P4, o4⟩, -⟩ := pob_s P3 (some (z + 4))
      obtain ⟨g1, y1, y2⟩ := l1
      obtain ⟨g3, y3, y4⟩ := l3
      obtain ⟨g2, y5, -⟩ := l2
      have a0 : m4 z = some (.inl (1, 9, .inr (.inl g1))) := by rw [o4 _ (by omega), o3 _ (by omega) (by omega) (by omega), o2 _ (by omega)]; exact y1
      have a1 : m4 (z + 1) = some (.inr (8, [.int (iz 2), .int (iz (bI (mun b))), .ref z, .long (jz 4096)])) := by rw [o4 _ (by omega), o3 _ (by omega) (by omega) (by omega), o2 _ (by omega)]; exact x1
      have a3 : m4 (z + 3) = some (.inl (1, 9, .inr (.inl g3))) := by rw [o4 _ (by omega)]; exact y3
      have a4 : m4 (z + 4) = some (.inr (8, [.int (iz 10), .int (iz (bI (mun b))), .ref (z + 3), .long (jz (detz (mxz b (da b 5))))])) := by rw [o4 _ (by omega)]; exact x3
      have a2 : ∀ fs, m4 (z + 2) ≠ some (.inr (5, fs)) := by
        intro fs q
        rw [o4 _ (by omega), y5] at q
        cases q
      refine ⟨m4, z + 5, w + 35, some (z + 1), some (z + 4), ?_, by omega, P4, fun c c1 c2 => ?_, fun c hc => ?_, fun c fs c1 c2 q => ?_, ⟨fun q => absurd (Or.inr cs) q, fun q => absurd q c3, fun _ _ => ⟨⟨z + 1, rfl, ⟨_, z, g1, (res_i (by omega) (by omega)).trans a1, (res_i (by omega) (by omega)).trans a0, y2⟩, ⟨8, _, (res_i (by omega) (by omega)).trans a1, rfl⟩⟩, z + 4, rfl, ⟨_, z + 3, g3, (res_i (by omega) (by omega)).trans a4, (res_i (by omega) (by omega)).trans a3, y4⟩, ⟨8, _, (res_i (by omega) (by omega)).trans a4, rfl⟩⟩⟩⟩
      · rw [(pob_e hP).1, Option.bind_some, zi_5, og, Option.bind_some, s1, Option.bind_some]
        refine mmV_i (by show z ≤ z + 2; omega) (by show w ≤ w + 13; omega) ?_ (by show z + 2 ≤ z + 5; omega) (by show w + 13 ≤ w + 35; omega)
        unfold f_Profile_init_471
        show ((mpA m1 (some P) [9] 6 (some (z + 1))).bind _) = _
        have og2 : mgI m2 (some Z) (iz 5) = some (iz (pld b 5)) := by
          rw [← og]
          obtain ⟨g', g1', g2'⟩ := hO
          have e := (o1 Z (by omega) (by omega)).trans g1'
          have e2 := (o2 Z (by omega)).trans e
          rw [show iz 5 = nI 5 from rfl, mgI_i g1' (by omega) (by decide), mgI_i e2 (by omega) (by decide)]
        rw [s2, Option.bind_some, qbI, if_pos rfl, (pob_e P2).1, Option.bind_some, zi_5, og2, Option.bind_some]
        show ((f_Matrix_back m2 (z + 2) (w + 13) (some pl) (iz (pld b 5))).bind _) = _
        rw [s3, Option.bind_some]
        refine mmV_i (by show z + 2 ≤ z + 2 + 3; omega) (by show w + 13 ≤ w + 13 + 22; omega) ?_ (by show z + 2 + 3 ≤ z + 5; omega) (by show w + 13 + 22 ≤ w + 35; omega)
        unfold f_Profile_init_494 f_Profile_init_497
        show ((mpA m3 (some P) [9] 7 (some (z + 4))).bind _) = _
        rw [s4, Option.bind_some]
      · rw [o4 c c2, o3 c (by omega) (by omega) (by omega), o2 c c2, o1 c (by omega) (by omega)]
      · rw [o4 c (by omega), o3 c (by omega) (by omega) (by omega), o2 c (by omega), o1 c (by omega) (by omega)]
      · have e : c = z ∨ c = z + 1 ∨ c = z + 2 ∨ c = z + 3 ∨ c = z + 4 := by omega
        rcases e with rfl | rfl | rfl | rfl | rfl
        · rw [a0] at q; cases q
        · rw [a1] at q
          have := (Prod.mk.inj (Sum.inr.inj (Option.some.inj q))).1
          omega
        · exact a2 fs q
        · rw [a3] at q; cases q
        · rw [a4] at q
          have := (Prod.mk.inj (Sum.inr.inj (Option.some.inj q))).1
          omega
    · rw [decide_eq_false cs, if_neg (by decide)]
      obtain ⟨-, ⟨m1, s1, P1, o1⟩, -⟩ := pob_s hP none
      obtain ⟨-, -, ⟨m2, s2, P2, o2⟩, -⟩ := pob_s P1 none
      refine ⟨m2, z, w, none, none, ?_, by omega, P2, fun c c1 c2 => ?_, fun c hc => ?_, fun c fs c1 c2 q => absurd c1 (by omega), ⟨fun _ => ⟨rfl, rfl⟩, fun q => absurd q c3, fun _ q => absurd q cs⟩⟩
      · unfold f_Profile_init_471 f_Profile_init_494 f_Profile_init_497
        rw [s1, Option.bind_some, qbI, if_neg (by decide), s2, Option.bind_some]
      · rw [o2 c c2, o1 c c2]
      · rw [o2 c (by omega), o1 c (by omega)]
end ST4
