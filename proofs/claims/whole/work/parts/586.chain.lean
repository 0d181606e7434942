/-! The reference's table of links and the chain of a link. -/
abbrev Lz : Type := Int × Int × Int × Int × Bool
def psg (K : Int → Int) (g : Lz) : List Pz := psz K g.2.1 g.2.2.1 g.2.2.2.1 g.2.2.2.2
def pokg (K : Int → Int) (g : Lz) : Prop := POK K g.2.1 g.2.2.1 g.2.2.2.1 g.2.2.2.2
def sB (A' A : Nat → Nat → Int32) : Prop := A' 0 = A 0 ∧ A' 2 = A 2 ∧ A' 4 = A 4 ∧ A' 5 = A 5 ∧ A' 6 = A 6 ∧ A' 7 = A 7 ∧ A' 8 = A 8
def LT (A : Nat → Nat → Int32) (nl : Nat) (G : Nat → Lz) : Prop := nl ≤ 16 ∧ ∀ k, k < nl → A 4 k = iz (G k).1 ∧ A 5 k = iz (G k).2.1 ∧ A 6 k = iz (G k).2.2.1 ∧ A 7 k = iz (G k).2.2.2.1 ∧ A 8 k = iz (bI (G k).2.2.2.2) ∧ -1 ≤ (G k).1 ∧ (G k).1 < k
def chl (C : Nat → List Pz) (k : Int) : List Pz := if k < 0 then [] else C k.toNat
def CH (K : Int → Int) (nl : Nat) (G : Nat → Lz) (C : Nat → List Pz) : Prop := ∀ k, k < nl → C k = chl C (G k).1 ++ psg K (G k) ∧ (C k).length ≤ 24 ∧ pokg K (G k)
def Path (G : Nat → Lz) : Int → List Nat → Prop
  | k, [] => k = -1
  | k, x :: w => k = x ∧ Path G (G x).1 w
def cw' (K : Int → Int) (G : Nat → Lz) : List Nat → List Pz
  | [] => []
  | x :: w => cw' K G w ++ psg K (G x)
theorem sB.rf {A : Nat → Nat → Int32} : sB A A := ⟨rfl, rfl, rfl, rfl, rfl, rfl, rfl⟩
theorem sB.tr {A B C : Nat → Nat → Int32} (h : sB A B) (h2 : sB B C) : sB A C := ⟨h.1.trans h2.1, h.2.1.trans h2.2.1, h.2.2.1.trans h2.2.2.1, h.2.2.2.1.trans h2.2.2.2.1, h.2.2.2.2.1.trans h2.2.2.2.2.1, h.2.2.2.2.2.1.trans h2.2.2.2.2.2.1, h.2.2.2.2.2.2.trans h2.2.2.2.2.2.2⟩
theorem sB_kp {A A' : Nat → Nat → Int32} (h : sB A' A) : kp A' = kp A := by
  unfold kp
  rw [h.2.1]
theorem sB_KA {A A' : Nat → Nat → Int32} (h : sB A' A) (hk : KA A) : KA A' := by
  unfold KA
  rw [h.2.1]
  exact hk
theorem sB_LT {A A' : Nat → Nat → Int32} {nl : Nat} {G : Nat → Lz} (h : sB A' A) (hl : LT A nl G) : LT A' nl G := by
  unfold LT
  rw [h.2.2.1, h.2.2.2.1, h.2.2.2.2.1, h.2.2.2.2.2.1, h.2.2.2.2.2.2]
  exact hl
theorem cw_C {K : Int → Int} {nl : Nat} {G : Nat → Lz} {C : Nat → List Pz} (hC : CH K nl G C) : ∀ (w : List Nat) (k : Int), Path G k w → (∀ x ∈ w, x < nl) → cw' K G w = chl C k
  | [], k, hp, _ => by
    have hp : k = -1 := hp
    unfold chl
    rw [if_pos (by omega)]
    rfl
  | x :: w, k, hp, hx => by
    obtain ⟨e, hp⟩ := hp
    have h1 := cw_C hC w _ hp (fun y hy => hx y (List.mem_cons_of_mem _ hy))
    have h2 := (hC x (hx x List.mem_cons_self)).1
    unfold cw' chl
    rw [h1, if_neg (by omega), e, Int.toNat_natCast]
    exact h2.symm
theorem chl_len {K : Int → Int} {nl : Nat} {G : Nat → Lz} {C : Nat → List Pz} (hC : CH K nl G C) {k : Int} (hk : k < nl) : (chl C k).length ≤ 24 := by
  unfold chl
  split
  · simp
  · exact (hC _ (by omega)).2.1
theorem chl_pv {K : Int → Int} {nl : Nat} {G : Nat → Lz} {C : Nat → List Pz} (hC : CH K nl G C) (hG : ∀ k, k < nl → (G k).1 < k) : ∀ (n : Nat) (k : Int), k < n → k < nl → ∀ q ∈ chl C k, pv K q := by
  intro n
  induction n with
  | zero =>
    intro k h1 h2 q hq
    unfold chl at hq
    rw [if_pos (by omega)] at hq
    cases hq
  | succ n ih =>
    intro k h1 h2 q hq
    unfold chl at hq
    by_cases e : k < 0
    · rw [if_pos e] at hq
      cases hq
    · rw [if_neg e] at hq
      obtain ⟨c1, c2, c3⟩ := hC k.toNat (by omega)
      have hg := hG k.toNat (by omega)
      rw [c1, List.mem_append] at hq
      rcases hq with hq | hq
      · exact ih _ (by omega) (by omega) q hq
      · exact psz_pv c3 q hq
section LAY
variable {μ : mM} {M : Nat} {A : Nat → Nat → Int32} {S : Nat → Int32} {L : Nat → Int64} {v : Int → Int} {l : List Pz}
theorem rf_fs (h : RF μ M A S L v l) : mfA μ (some M) [11] 4 = some (some (M + 3)) ∧ mfA μ (some M) [11] 5 = some (some (M + 4)) ∧ mfA μ (some M) [11] 6 = some (some (M + 5)) ∧ mfA μ (some M) [11] 7 = some (some (M + 6)) ∧ mfA μ (some M) [11] 8 = some (some (M + 7)) ∧ mfA μ (some M) [11] 17 = some (some (M + 13)) := by
  obtain ⟨A', S', o, m, ⟨J, h1, h2⟩, h3⟩ := h
  exact ⟨mo_f4 h1, mo_f5 h1, mo_f6 h1, mo_f7 h1, mo_f8 h1, mo_f17 h1⟩
theorem rf_gs (h : RF μ M A S L v l) {k : Nat} (hk : k < 16) : mgI μ (some (M + 3)) (nI k) = some (A 4 k) ∧ mgI μ (some (M + 4)) (nI k) = some (A 5 k) ∧ mgI μ (some (M + 5)) (nI k) = some (A 6 k) ∧ mgI μ (some (M + 6)) (nI k) = some (A 7 k) ∧ mgZ μ (some (M + 7)) (nI k) = some (A 8 k) ∧ mgI μ (some (M + 13)) (nI k) = some (A 17 k) := by
  obtain ⟨A', S', o, m, ⟨J, h1, h2⟩, ⟨a0, a2, a4, a5, a6, a7, a8, a17⟩, h4⟩ := h
  refine ⟨?_, ?_, ?_, ?_, ?_, ?_⟩
  · rw [mo_g4 h1 hk, a4]
  · rw [mo_g5 h1 hk, a5]
  · rw [mo_g6 h1 hk, a6]
  · rw [mo_g7 h1 hk, a7]
  · rw [mo_g8 h1 hk, a8]
  · rw [mo_g17 h1 hk, a17]
theorem rf_sl (h : RF μ M A S L v l) {j : Nat} (hj : j < 16) (x : Int32) : ∃ μ', msI μ (some (M + 13)) (nI j) x = some μ' ∧ RF μ' M (va_up A 17 (upd (A 17) j x)) S L v l ∧ Out M μ μ' := by
  obtain ⟨A', S', o, m, ⟨J, h1, h2⟩, ⟨a0, a2, a4, a5, a6, a7, a8, a17⟩, h4⟩ := h
  refine ⟨_, mo_s17 h1 hj, ⟨_, S', o, m, ⟨J, mo_u17 h1 _, h2⟩, ⟨a0, a2, a4, a5, a6, a7, a8, ?_⟩, h4⟩, fun b hb => mup_ne _ _ (by omega)⟩
  simp [va_up, a17]
theorem rf_ly1 {nl : Nat} {G : Nat → Lz} (hG : LT A nl G) (kx : mM → Int32 → Option mM) : ∀ (n fu : Nat) (A1 : Nat → Nat → Int32) (k : Int) (j : Nat) (μ : mM), k < n → -1 ≤ k → k < nl → j + (k + 1) ≤ 16 → n < fu → sB A1 A → RF μ M A1 S L v l → ∃ μ' A2 w, f_Mo_lay_4 M kx fu μ (nI j) (iz k) = kx μ' (nI (j + w.length)) ∧ RF μ' M A2 S L v l ∧ sB A2 A ∧ (∀ i, i < j → A2 17 i = A1 17 i) ∧ (∀ i x, w[i]? = some x → A2 17 (j + i) = nI x) ∧ Path G k w ∧ (∀ x ∈ w, x < nl) ∧ (w.length : Int) ≤ k + 1 ∧ Out M μ μ' := by
  intro n
  induction n with
  | zero =>
    intro fu A1 k j μ h1 h2 h3 h4 h5 hs h
    obtain ⟨fu, rfl⟩ : ∃ m, fu = m + 1 := ⟨fu - 1, by omega⟩
    refine ⟨μ, A1, [], ?_, h, hs, fun _ _ => rfl, fun i x q => by simp at q, by show k = -1; omega, fun x q => (by cases q), (by simp; omega), Out.rf⟩
    rw [f_Mo_lay_4, zi_0, if_pos ((iz_lt (iR_s (by omega) (by omega)) (iR_s (by omega) (by omega))).mpr (by omega))]
    rfl
  | succ n ih =>
    intro fu A1 k j μ h1 h2 h3 h4 h5 hs h
    obtain ⟨fu, rfl⟩ : ∃ m, fu = m + 1 := ⟨fu - 1, by omega⟩
    by_cases hk : k < 0
    · refine ⟨μ, A1, [], ?_, h, hs, fun _ _ => rfl, fun i x q => by simp at q, by show k = -1; omega, fun x q => (by cases q), (by simp; omega), Out.rf⟩
      rw [f_Mo_lay_4, zi_0, if_pos ((iz_lt (iR_s (by omega) (by omega)) (iR_s (by omega) (by omega))).mpr (by omega))]
      rfl
    · have hkn : iz k = nI k.toNat := iz_nat (by omega)
      have hL := sB_LT hs hG
      have hn16 := hG.1
      obtain ⟨g4, g5, g6, g7, g8, gp, gl⟩ := hL.2 k.toNat (by omega)
      obtain ⟨m1, s1, k1, o1⟩ := rf_sl h (j := j) (by omega) (iz k)
      have hs1 : sB (va_up A1 17 (upd (A1 17) j (iz k))) A := hs
      obtain ⟨m2, A2, w, s2, k2, b2, p2', q2, c2, d2, e2, o2⟩ := ih fu _ (G k.toNat).1 (j + 1) m1 (by omega) (by omega) (by omega) (by omega) (by omega) hs1 k1
      refine ⟨m2, A2, k.toNat :: w, ?_, k2, b2, fun i hi => ?_, fun i x hx => ?_, ⟨by omega, c2⟩, ?_, by simp only [List.length_cons]; omega, o1.tr o2⟩
      · rw [f_Mo_lay_4, zi_0, if_neg (fun q => by have := (iz_lt (iR_s (by omega) (by omega)) (iR_s (by omega) (by omega))).mp q; omega), (rf_fs h).2.2.2.2.2, Option.bind_some, s1, Option.bind_some, (rf_fs k1).1, Option.bind_some, hkn, (rf_gs k1 (by omega)).1, Option.bind_some, nI_s]
        have e4 : va_up A1 17 (upd (A1 17) j (iz k)) 4 k.toNat = iz (G k.toNat).1 := g4
        rw [e4, s2, List.length_cons]
        congr 2
        omega
      · rw [p2' i (by omega)]
        have : i ≠ j := by omega
        simp [va_up, upd, this]
      · cases i with
        | zero =>
          simp at hx
          subst hx
          have := p2' j (by omega)
          rw [Nat.add_zero, this, ← hkn]
          simp [va_up, upd]
        | succ i =>
          have hx' : w[i]? = some x := by simpa using hx
          have := q2 i x hx'
          rw [← this]
          congr 1
          omega
      · intro x hx
        rcases List.mem_cons.mp hx with rfl | hx
        · omega
        · exact d2 x hx
theorem rf_ly2 {nl : Nat} {G : Nat → Lz} {C : Nat → List Pz} (hk : KA A) (hG : LT A nl G) (hC : CH (kp A) nl G C) {w : List Nat} (hw : ∀ x ∈ w, x < nl) (hw16 : w.length ≤ 16) (hA : ∀ i x, w[i]? = some x → A 17 i = nI x) (hp : ∀ i, i ≤ w.length → ∃ k : Int, k < nl ∧ Path G k (w.drop i)) (kx : mM → Option mM) : ∀ (i fu : Nat) (μ : mM) (v : Int → Int), i < fu → i ≤ w.length → RF μ M A S L v (cw' (kp A) G (w.drop i)) → ∃ μ' v', f_Mo_lay_37 M kx fu μ (iz ((i : Int) - 1)) = kx μ' ∧ RF μ' M A S L v' (cw' (kp A) G w) ∧ Out M μ μ' := by
  intro i
  induction i with
  | zero =>
    intro fu μ v hf hi h
    obtain ⟨fu, rfl⟩ : ∃ m, fu = m + 1 := ⟨fu - 1, by omega⟩
    refine ⟨μ, v, ?_, h, Out.rf⟩
    rw [f_Mo_lay_37, zi_0, if_pos (by decide)]
  | succ i ih =>
    intro fu μ v hf hi h
    obtain ⟨fu, rfl⟩ : ∃ m, fu = m + 1 := ⟨fu - 1, by omega⟩
    have hiw : i < w.length := by omega
    have ei : ((i + 1 : Nat) : Int) - 1 = i := by omega
    have hx := hw _ (List.getElem_mem hiw)
    have h17 := hA i w[i] (List.getElem?_eq_getElem hiw)
    have hn16 := hG.1
    obtain ⟨g4, g5, g6, g7, g8, gp, gl⟩ := hG.2 w[i] hx
    obtain ⟨c1, c2, ha, hA', hb, hB, hit, hok, -⟩ := hC w[i] hx
    have hlen : (cw' (kp A) G (w.drop (i + 1))).length ≤ 24 := by
      obtain ⟨k, hkn, hpk⟩ := hp (i + 1) (by omega)
      rw [cw_C hC _ _ hpk (fun x hx => hw x (List.mem_of_mem_drop hx))]
      exact chl_len hC hkn
    obtain ⟨m1, v1, s1, k1, o1⟩ := rf_passage h hk (by omega) ha hA' hb hB hit hok (G w[i]).2.2.2.2
    have ed : cw' (kp A) G (w.drop (i + 1)) ++ psz (kp A) (G w[i]).2.1 (G w[i]).2.2.1 (G w[i]).2.2.2.1 (G w[i]).2.2.2.2 = cw' (kp A) G (w.drop i) := by
      rw [List.drop_eq_getElem_cons hiw]
      rfl
    rw [ed] at k1
    obtain ⟨m2, v2, s2, k2, o2⟩ := ih fu m1 v1 (by omega) (by omega) k1
    refine ⟨m2, v2, ?_, k2, o1.tr o2⟩
    have hg := rf_gs h (k := i) (by omega)
    have hgx := rf_gs h (k := w[i]) (by omega)
    rw [ei, f_Mo_lay_37, zi_0, if_neg (fun q => by have := (iz_lt (iR_s (by omega) (by omega)) (iR_s (by omega) (by omega))).mp q; omega), ← nI_iz]
    rw [(rf_fs h).2.1, Option.bind_some, (rf_fs h).2.2.2.2.2, Option.bind_some, hg.2.2.2.2.2, h17, Option.bind_some, hgx.2.1, g5, Option.bind_some]
    rw [(rf_fs h).2.2.1, Option.bind_some, Option.bind_some, hg.2.2.2.2.2, h17, Option.bind_some, hgx.2.2.1, g6, Option.bind_some]
    rw [(rf_fs h).2.2.2.1, Option.bind_some, Option.bind_some, hg.2.2.2.2.2, h17, Option.bind_some, hgx.2.2.2.1, g7, Option.bind_some]
    rw [(rf_fs h).2.2.2.2.1, Option.bind_some, Option.bind_some, hg.2.2.2.2.2, h17, Option.bind_some, hgx.2.2.2.2.1, g8, Option.bind_some]
    rw [rf_rc h, Option.bind_some, s1, Option.bind_some, nI_iz, zi_m1, iz_add]
    exact s2
theorem Path.drop {G : Nat → Lz} {nl : Nat} (hG : ∀ k, k < nl → (G k).1 < k) : ∀ (w : List Nat) (k : Int) (i : Nat), Path G k w → k < nl → (∀ x ∈ w, x < nl) → i ≤ w.length → ∃ k' : Int, k' < nl ∧ Path G k' (w.drop i)
  | w, k, 0, h, hk, _, _ => ⟨k, hk, h⟩
  | [], k, i + 1, h, hk, _, hi => by simp at hi
  | x :: w, k, i + 1, h, hk, hx, hi => by
    have h1 := hx x List.mem_cons_self
    have h2 := hG x h1
    exact Path.drop hG w _ i h.2 (by omega) (fun y hy => hx y (List.mem_cons_of_mem _ hy)) (by simpa using hi)
theorem rf_lay {nl : Nat} {G : Nat → Lz} {C : Nat → List Pz} (h : RF μ M A S L v l) (hk : KA A) (hG : LT A nl G) (hC : CH (kp A) nl G C) {k : Int} (h0 : -1 ≤ k) (h1 : k < nl) : ∃ μ' A2 v', f_Mo_lay M μ (iz k) = some μ' ∧ RF μ' M A2 S L v' (chl C k) ∧ sB A2 A ∧ Out M μ μ' := by
  have hn16 := hG.1
  obtain ⟨m1, A1, w, s1, k1, b1, p1, q1, c1, d1, e1, o1⟩ := rf_ly1 (v := v) (l := l) hG (fun μ y2 => f_Mo_lay_28 M μ y2) (k + 1).toNat 4096 A k 0 μ (by omega) h0 h1 (by omega) (by omega) sB.rf h
  obtain ⟨m2, s2, k2, o2⟩ := rf_set (l := []) (e := l) k1
  have hG1 := sB_LT b1 hG
  have hC1 : CH (kp A1) nl G C := by rw [sB_kp b1]; exact hC
  have hpd : ∀ i, i ≤ w.length → ∃ k : Int, k < nl ∧ Path G k (w.drop i) := fun i hi => Path.drop (fun x hx => (hG.2 x hx).2.2.2.2.2.2) w k i c1 h1 d1 hi
  obtain ⟨m3, v3', s3, k3, o3⟩ := rf_ly2 (sB_KA b1 hk) hG1 hC1 d1 (by omega) (fun i x hx => by have := q1 i x hx; rw [Nat.zero_add] at this; exact this) hpd (fun μ => f_Mo_lay_95 M μ) w.length 4096 m2 v (by omega) (by omega) (by rw [List.drop_length]; exact k2)
  refine ⟨m3, A1, v3', ?_, ?_, b1, (o1.tr o2).tr o3⟩
  · unfold f_Mo_lay
    refine (show f_Mo_lay_4 M _ 4096 μ (0 : Int32) (iz k) = _ from s1).trans ?_
    unfold f_Mo_lay_28
    rw [show (0 : Int32) = nI ([] : List Pz).length from rfl, s2, Option.bind_some, Nat.zero_add, nI_iz, zi_1, iz_sub]
    exact s3
  · rw [← cw_C hC1 w k c1 d1]
    exact k3
end LAY
