/-! Curves and matrices of a profile being made. -/
def stA (g wn : Int → Int) : Nat → Int → Bool
  | 0, _ => true
  | m + 1, i => decide (g i = 0 ∧ wn i = 0) && stA g wn m (i + 1)
section NEX
variable {μ : mM}
theorem cv_str {c : Nat} {g wn : Int} {wd : Int → Int} (h : CV μ c g wn wd) (hg : 0 ≤ g ∧ g < 256) (hw : 0 ≤ wn ∧ wn ≤ 24) : ((mrc μ (some c) 2).bind fun a => f_Curve_isStraight μ a) = some (iz (bI (decide (g = 0 ∧ wn = 0)))) := by
  obtain ⟨ad, e1, e2, e3, e4, -⟩ := cv_e h
  rw [e1, Option.bind_some]
  unfold f_Curve_isStraight f_Curve_isStraight_19 f_Curve_isStraight_20
  rw [mz_0, mz_1, Option.bind_some, Option.bind_some, e2, Option.bind_some, e3, Option.bind_some, e4, Option.bind_some, zi_0, qeq (iR_s (by omega) (by omega)) (iR_s (by omega) (by omega)), qeq (iR_s (by omega) (by omega)) (iR_s (by omega) (by omega))]
  by_cases c1 : g = 0
  · rw [if_pos c1]
    by_cases c2 : wn = 0
    · rw [if_pos c2, decide_eq_true ⟨c1, c2⟩]
      rfl
    · rw [if_neg c2, decide_eq_false (fun w => c2 w.2)]
      rfl
  · rw [if_neg c1, decide_eq_false (fun w => c1 w.1)]
    rfl
theorem cs_strL {ra n : Nat} {f : Nat → Option Nat} (h : μ ra = some (.inl (6, n, .inr (.inr (.inr (.inr f)))))) (hn : n ≤ 3) {g wn : Int → Int} {wd : Int → Int → Int} (hc : ∀ i : Nat, i < n → ∃ ci, f i = some ci ∧ CV μ ci (g i) (wn i) (wd i) ∧ (0 ≤ g i ∧ g i < 256) ∧ 0 ≤ wn i ∧ wn i ≤ 24) : ∀ (m fu i : Nat) (u : Bool), m < fu → i + m = n → f_Curves_areStraight_4 μ (fun y1 => f_Curves_areStraight_35 μ y1) fu (some ra) (iz (bI u)) (iz i) = some (iz (bI (u && stA g wn m i))) := by
  intro m
  induction m with
  | zero =>
    intro fu i u hf hi
    obtain ⟨fu, rfl⟩ : ∃ m, fu = m + 1 := ⟨fu - 1, by omega⟩
    rw [f_Curves_areStraight_4, ml_i h (by decide), Option.bind_some]
    show (if nI n ≤ iz i then _ else _) = _
    rw [nI_iz, qle (iR_s (by omega) (by omega)) (iR_s (by omega) (by omega)), if_pos (by omega)]
    unfold f_Curves_areStraight_35 stA
    rw [mz_b, Option.bind_some, Bool.and_true]
  | succ m ih =>
    intro fu i u hf hi
    obtain ⟨fu, rfl⟩ : ∃ m, fu = m + 1 := ⟨fu - 1, by omega⟩
    obtain ⟨ci, c1, c2, c3, c4⟩ := hc i (by omega)
    have i1 := fun w => ih fu (i + 1) w (by omega) (by omega)
    rw [f_Curves_areStraight_4, ml_i h (by decide), Option.bind_some]
    show (if nI n ≤ iz i then _ else _) = some (iz (bI (u && (decide (g i = 0 ∧ wn i = 0) && stA g wn m ((i : Int) + 1)))))
    rw [nI_iz n, qle (iR_s (by omega) (by omega)) (iR_s (by omega) (by omega)), if_neg (by omega), qbI, ← nI_iz i, mgA_i (k := 3) h (by decide) (by omega) (by omega), Option.bind_some, c1, cv_str c2 c3 c4, Option.bind_some, qbI]
    unfold f_Curves_areStraight_27 f_Curves_areStraight_28
    rw [nI_s, nI_iz (i + 1), ← Bool.and_assoc, show (i : Int) + 1 = ((i + 1 : Nat) : Int) by omega, ← i1]
    cases u
    · rw [if_neg (by decide), Bool.false_and]
      rfl
    · rw [if_pos rfl, Bool.true_and]
      by_cases d : g i = 0 ∧ wn i = 0
      · rw [decide_eq_true d, if_pos rfl]
        rfl
      · rw [decide_eq_false d, if_neg (by decide)]
        rfl
theorem cs_new {a ra n : Nat} {f : Nat → Option Nat} (ha : μ a = some (.inr (3, [.int 0, .int 0, .null]))) (h : μ ra = some (.inl (6, n, .inr (.inr (.inr (.inr f)))))) (hn : n ≤ 3) {g wn : Int → Int} {wd : Int → Int → Int} (hc : ∀ i : Nat, i < n → ∃ ci, f i = some ci ∧ CV μ ci (g i) (wn i) (wd i) ∧ (0 ≤ g i ∧ g i < 256) ∧ 0 ≤ wn i ∧ wn i ≤ 24) {kd : Int} : f_Curves_init a μ (iz kd) (some ra) = some (mup μ a (.inr (3, [.int (iz kd), .int (iz (bI (stA g wn n 0))), .ref ra]))) := by
  have e := cs_strL h hn hc n 4096 0 true (by omega) (by omega)
  unfold f_Curves_init f_Curves_areStraight
  change ((f_Curves_areStraight_4 μ (fun y1 => f_Curves_areStraight_35 μ y1) 4096 (some ra) (iz (bI true)) (iz ((0 : Nat) : Int))).bind _) = _
  rw [e, Option.bind_some, Option.bind_some, Bool.true_and, pc_init ha rfl (by decide), Option.bind_some, mpA_i (mup_self _ _ _) rfl (show 2 < 3 by decide), Option.bind_some, mup_mup]
  rfl
theorem mna_1 {z n : Nat} (hn : n < 65536) : mna μ z 1 (nI n) = some (mup μ z (.inl (1, n, .inr (.inl (fun _ => 0))))) := by
  have e3 : (nI n).toNatClampNeg = n := nI_clamp (by omega)
  unfold mna
  rw [if_neg, e3]
  · rfl
  · rw [e3]
    rintro (q | q)
    · rw [nI_iz, zi_0] at q
      have := (iz_lt (iR_s (by omega) (by omega)) (iR_s (by omega) (by omega))).mp q
      omega
    · omega
/-- nine longs -/
def L9 (μ : mM) (a : Nat) (m : Int → Int) : Prop := ∃ g : Nat → Int64, μ a = some (.inl (1, 9, .inr (.inl g))) ∧ ∀ i : Nat, i < 9 → g i = jz (m i)
theorem l9_g {a : Nat} {m : Int → Int} (h : L9 μ a m) {i : Int} (h0 : 0 ≤ i) (h1 : i < 9) : mgJ μ (some a) (iz i) = some (jz (m i)) := by
  obtain ⟨g, h2, h3⟩ := h
  rw [iz_nat h0, mgJ_i h2 (by omega) (by decide), h3 _ (by omega), Int.toNat_of_nonneg h0]
theorem l9_o {μ' : mM} {a : Nat} {m : Int → Int} (h : L9 μ a m) (e : μ' a = μ a) : L9 μ' a m := by
  obtain ⟨g, h2, h3⟩ := h
  exact ⟨g, e.trans h2, h3⟩
theorem rd_fac {pl n : Nat} {q b : Int → Int} (h : PLR μ pl n q) (hn : n ≤ 256) (hq : Byt q) {z w : Nat} (hpz : pl ≠ z) {off o : Int} (h0 : 0 ≤ off) (h1 : off + 20 ≤ n) (hW : ∀ i, 0 ≤ i → i < 9 → wz q (off + 2 + 2 * i) = wz b (o + 2 + 2 * i)) : ∃ μ', f_Matrix_readFactors μ z w (some pl) (iz off) = some (some z, μ', z + 1, w + 9) ∧ L9 μ' z (mxz b o) ∧ ∀ c, c ≠ z → μ' c = μ c := by
  have loop : ∀ (j fu i : Nat) (m : mM) (g : Nat → Int64), j < fu → i + j = 9 → m z = some (.inl (1, 9, .inr (.inl g))) → (∀ k : Nat, k < i → g k = jz (mxz b o k)) → (∀ c, c ≠ z → m c = μ c) → ∃ μ', f_Matrix_readFactors_7 (fun μ z w y2 => f_Matrix_readFactors_54 μ z w y2) fu m (z + 1) (w + 9) (some pl) (iz off) (some z) (iz i) = some (some z, μ', z + 1, w + 9) ∧ L9 μ' z (mxz b o) ∧ ∀ c, c ≠ z → μ' c = μ c := by
    intro j
    induction j with
    | zero =>
      intro fu i m g hf hi b1 hg ho
      obtain ⟨fu, rfl⟩ : ∃ m, fu = m + 1 := ⟨fu - 1, by omega⟩
      refine ⟨m, ?_, ⟨g, b1, fun k hk => hg k (by omega)⟩, ho⟩
      rw [f_Matrix_readFactors_7, zi_9, qle (iR_s (by omega) (by omega)) (iR_s (by omega) (by omega)), if_pos (by omega)]
      rfl
    | succ j ih =>
      intro fu i m g hf hi b1 hg ho
      obtain ⟨fu, rfl⟩ : ∃ m, fu = m + 1 := ⟨fu - 1, by omega⟩
      have hp : PLR m pl n q := plr_o h (ho _ hpz)
      have s1 : msJ m (some z) (nI i) (jz (mxz b o i)) = some (mup m z (.inl (1, 9, .inr (.inl (vp_updL g i (jz (mxz b o i))))))) := msJ_i b1 (by omega) (by decide)
      obtain ⟨m', r1, r2, r3⟩ := ih fu (i + 1) _ _ (by omega) (by omega) (mup_self m z (.inl (1, 9, .inr (.inl (vp_updL g i (jz (mxz b o i))))))) (fun k hk => by
        by_cases c : k = i
        · subst c
          simp [vp_updL]
        · simp only [vp_updL, if_neg c]
          exact hg k (by omega)) (fun c hc => (mup_ne _ _ hc).trans (ho c hc))
      refine ⟨m', ?_, r2, r3⟩
      have w1 : 0 ≤ wz q (off + 2 + 2 * i) ∧ wz q (off + 2 + 2 * i) ≤ 65535 := by
        have y1 := hq (off + 2 + 2 * i)
        have y2 := hq (off + 2 + 2 * i + 1)
        unfold wz
        omega
      have em : mxz b o i = if 32767 < wz q (off + 2 + 2 * i) then wz q (off + 2 + 2 * i) - 65536 else wz q (off + 2 + 2 * i) := by
        unfold mxz
        rw [hW i (by omega) (by omega)]
      rw [f_Matrix_readFactors_7, zi_9, qle (iR_s (by omega) (by omega)) (iR_s (by omega) (by omega)), if_neg (by omega), zi_2, iz_add, iz_mul, iz_add, plr_w hp hn (by omega) (by omega), Option.bind_some, zi_32768, qlt (iR_s (by omega) (by omega)) (iR_s (by omega) (by omega)), zi_65536, iz_sub, iz_j (iR_s (by omega) (by omega)), iz_j (iR_s (by omega) (by omega))]
      unfold f_Matrix_readFactors_47
      by_cases c : 32767 < wz q (off + 2 + 2 * i)
      · rw [if_pos c] at em
        rw [if_neg (by omega), ← em, ← nI_iz i, s1, Option.bind_some, nI_s, nI_iz]
        exact r1
      · rw [if_neg c] at em
        rw [if_pos (by omega), ← em, ← nI_iz i, s1, Option.bind_some, nI_s, nI_iz]
        exact r1
  obtain ⟨m', r1, r2, r3⟩ := loop 9 4096 0 (mup μ z (.inl (1, 9, .inr (.inl (fun _ => 0))))) _ (by omega) (by omega) (mup_self _ _ _) (fun k hk => by omega) (fun c hc => mup_ne _ _ hc)
  refine ⟨m', ?_, r2, r3⟩
  unfold f_Matrix_readFactors
  refine mmT_i (Nat.le_refl _) (Nat.le_refl _) ?_ (by show z ≤ z + 1; omega) (by show w ≤ w + 9; omega)
  change ((mna μ z 1 (nI 9)).bind _) = _
  rw [mna_1 (by decide), Option.bind_some, show ((9 : Int32)).toNatClampNeg = 9 by decide]
  exact mmT_i (by omega) (by omega) r1 (Nat.le_refl _) (Nat.le_refl _)
theorem mx_unit {a : Nat} {m : Int → Int} (h : L9 μ a m) (hm : ∀ i, -32768 ≤ m i ∧ m i ≤ 32768) : f_Matrix_isUnit μ (some a) = some (iz (bI (muL m 9 0))) := by
  have loop : ∀ (j fu : Nat) (i : Int) (u : Bool), j < fu → 0 ≤ i → i + j = 9 → f_Matrix_isUnit_4 μ (fun y1 => f_Matrix_isUnit_47 μ y1) fu (some a) (iz (bI u)) (iz i) = some (iz (bI (u && muL m j i))) := by
    intro j
    induction j with
    | zero =>
      intro fu i u hf h0 hi
      obtain ⟨fu, rfl⟩ : ∃ m, fu = m + 1 := ⟨fu - 1, by omega⟩
      rw [f_Matrix_isUnit_4, zi_9, qle (iR_s (by omega) (by omega)) (iR_s (by omega) (by omega)), if_pos (by omega)]
      unfold f_Matrix_isUnit_47 muL
      rw [mz_b, Option.bind_some, Bool.and_true]
    | succ j ih =>
      intro fu i u hf h0 hi
      obtain ⟨fu, rfl⟩ : ∃ m, fu = m + 1 := ⟨fu - 1, by omega⟩
      have i1 := fun w => ih fu (i + 1) w (by omega) (by omega) (by omega)
      have hmi := hm i
      have es : (u && muL m (j + 1) i) = ((u && decide (m i = if i % 4 = 0 then 4096 else 0)) && muL m j (i + 1)) := by
        rw [Bool.and_assoc]
        rfl
      rw [es, ← i1, f_Matrix_isUnit_4, zi_9, qle (iR_s (by omega) (by omega)) (iR_s (by omega) (by omega)), if_neg (by omega), qbI, l9_g h (by omega) (by omega), Option.bind_some, zi_4, iz_rem (by omega) (by omega)]
      unfold f_Matrix_isUnit_30 f_Matrix_isUnit_39 f_Matrix_isUnit_40
      rw [zi_4096, zi_0, iz_j (iR_s (by omega) (by omega)), iz_j (iR_s (by omega) (by omega)), qeq (a := i % 4) (iR_s (by omega) (by omega)) (iR_s (by omega) (by omega)), zi_1, iz_add]
      cases u
      · rw [if_neg (by decide)]
        rfl
      · rw [if_pos rfl, Bool.true_and]
        have jE : ∀ v : Int, -40000 ≤ v → v ≤ 40000 → (jz (m i) = jz v ↔ m i = v) := fun v v0 v1 => jz_eq ⟨by omega, by omega⟩ ⟨by omega, by omega⟩
        by_cases c4 : i % 4 = 0
        · rw [if_pos c4, if_pos c4]
          by_cases c5 : m i = 4096
          · rw [if_pos ((jE _ (by omega) (by omega)).mpr c5), decide_eq_true c5]
            rfl
          · rw [if_neg (fun w => c5 ((jE _ (by omega) (by omega)).mp w)), decide_eq_false c5]
            rfl
        · rw [if_neg c4, if_neg c4]
          by_cases c5 : m i = 0
          · rw [if_pos ((jE _ (by omega) (by omega)).mpr c5), decide_eq_true c5]
            rfl
          · rw [if_neg (fun w => c5 ((jE _ (by omega) (by omega)).mp w)), decide_eq_false c5]
            rfl
  unfold f_Matrix_isUnit
  have e := loop 9 4096 0 true (by omega) (by omega) (by omega)
  rw [Bool.true_and] at e
  exact e
theorem mx_new {a fa : Nat} (ha : μ a = some (.inr (8, [.int 0, .int 0, .null, .long 0]))) {kd d : Int} {u : Bool} : f_Matrix_init a μ (iz kd) (iz (bI u)) (some fa) (jz d) = some (mup μ a (.inr (8, [.int (iz kd), .int (iz (bI u)), .ref fa, .long (jz d)]))) := by
  unfold f_Matrix_init
  rw [Option.bind_some, pc_init ha rfl (by decide), Option.bind_some, mpA_i (mup_self _ _ _) rfl (show 2 < 4 by decide), Option.bind_some, mup_mup, mpJ_i (mup_self _ _ _) rfl (show 3 < 4 by decide), Option.bind_some, mup_mup]
  rfl
theorem mx_forth {pl n : Nat} {q b : Int → Int} (h : PLR μ pl n q) (hn : n ≤ 256) (hq : Byt q) {z w : Nat} (hpz : pl ≠ z) {off o : Int} (h0 : 0 ≤ off) (h1 : off + 20 ≤ n) (hW : ∀ i, 0 ≤ i → i < 9 → wz q (off + 2 + 2 * i) = wz b (o + 2 + 2 * i)) (hm : ∀ i, -32768 ≤ mxz b o i ∧ mxz b o i ≤ 32768) : ∃ μ', f_Matrix_forth μ z w (some pl) (iz off) = some (some (z + 1), μ', z + 2, w + 13) ∧ L9 μ' z (mxz b o) ∧ μ' (z + 1) = some (.inr (8, [.int (iz 2), .int (iz (bI (muL (mxz b o) 9 0))), .ref z, .long (jz 4096)])) ∧ ∀ c, c ≠ z → c ≠ z + 1 → μ' c = μ c := by
  obtain ⟨m1, s1, r1, o1⟩ := rd_fac h hn hq (w := w) hpz h0 h1 hW
  have r2 : L9 (mup m1 (z + 1) (.inr (8, [.int 0, .int 0, .null, .long 0]))) z (mxz b o) := l9_o r1 (mup_ne _ _ (by omega))
  refine ⟨mup (mup m1 (z + 1) (.inr (8, [.int 0, .int 0, .null, .long 0]))) (z + 1) (.inr (8, [.int (iz 2), .int (iz (bI (muL (mxz b o) 9 0))), .ref z, .long (jz 4096)])), ?_, ?_, mup_self _ _ _, fun c c1 c2 => ?_⟩
  rotate_left
  · exact l9_o r2 (mup_ne _ _ (by omega))
  · rw [mup_ne _ _ c2, mup_ne _ _ c2, o1 c c1]
  · unfold f_Matrix_forth
    refine mmT_i (Nat.le_refl _) (Nat.le_refl _) ?_ (by show z ≤ z + 2; omega) (by show w ≤ w + 13; omega)
    rw [s1, Option.bind_some]
    refine mmT_i (by show z ≤ z + 1; omega) (by show w ≤ w + 9; omega) ?_ (by show z + 1 ≤ z + 2; omega) (by show w + 9 ≤ w + 13; omega)
    unfold mnew
    rw [Option.bind_some]
    refine mmT_i (by show z + 1 ≤ z + 1 + 1; omega) (by show w + 9 ≤ w + 9 + 4; omega) ?_ (by show z + 1 + 1 ≤ z + 2; omega) (by show w + 9 + 4 ≤ w + 13; omega)
    show ((f_Matrix_isUnit (mup m1 (z + 1) _) (some z)).bind _) = _
    rw [mx_unit r2 hm, Option.bind_some, Option.bind_some]
    change ((f_Matrix_init (z + 1) (mup m1 (z + 1) (.inr (8, [.int 0, .int 0, .null, .long 0]))) (iz 2) (iz (bI (muL (mxz b o) 9 0))) (some z) (jz 4096)).bind _) = _
    rw [mx_new (mup_self _ _ _), Option.bind_some]
theorem i3 {i : Int} (h0 : 0 ≤ i) (h1 : i < 1000) : iz i - iz i / iz 3 * iz 3 = iz (i % 3) := by
  rw [iz_div (iR_s (by omega) (by omega)) (iR_s (by omega) (by omega)) (by omega), iz_mul, iz_sub, Int.tdiv_eq_ediv_of_nonneg h0]
  congr 1
  omega
theorem mx_cof {a : Nat} {m : Int → Int} (h : L9 μ a m) {i j : Int} (i0 : 0 ≤ i ∧ i < 3) (j0 : 0 ≤ j ∧ j < 3) : f_Matrix_cofactor μ (some a) (iz i) (iz j) = some (jz (cofz m i j)) := by
  unfold f_Matrix_cofactor cofz
  rw [zi_3, zi_1, zi_2, iz_add, iz_add, iz_add, iz_add, i3 (by omega) (by omega), i3 (by omega) (by omega), i3 (by omega) (by omega), i3 (by omega) (by omega), iz_mul, iz_mul, iz_add, iz_add, iz_add, iz_add, l9_g h (by omega) (by omega), Option.bind_some, l9_g h (by omega) (by omega), Option.bind_some, l9_g h (by omega) (by omega), Option.bind_some, l9_g h (by omega) (by omega), Option.bind_some, jz_mul, jz_mul, jz_sub]
theorem mx_tur {x y : Nat} (hxy : x ≠ y) {m : Int → Int} {zz ww : Nat} (kx : mM → Nat → Nat → Option Nat → Option Nat → Option (Option Nat × mM × Nat × Nat)) : ∀ (s fu i : Nat) (μ : mM), s < fu → i + s = 3 → L9 μ x m → (∃ g : Nat → Int64, μ y = some (.inl (1, 9, .inr (.inl g))) ∧ ∀ a b : Nat, a < i → b < 3 → g (3 * b + a) = jz (turz m ((3 * b + a : Nat) : Int))) → ∃ μ', f_Matrix_back_14 kx fu μ zz ww (some x) (some y) (iz i) = kx μ' zz ww (some x) (some y) ∧ L9 μ' x m ∧ L9 μ' y (turz m) ∧ ∀ c, c ≠ y → μ' c = μ c := by
  intro s
  induction s with
  | zero =>
    intro fu i μ hf hi h hg
    obtain ⟨fu, rfl⟩ : ∃ m, fu = m + 1 := ⟨fu - 1, by omega⟩
    obtain ⟨g, g1, g2⟩ := hg
    refine ⟨μ, ?_, h, ⟨g, g1, fun k hk => ?_⟩, fun _ _ => rfl⟩
    · rw [f_Matrix_back_14, zi_3, qle (iR_s (by omega) (by omega)) (iR_s (by omega) (by omega)), if_pos (by omega)]
    · have e := g2 (k % 3) (k / 3) (by omega) (by omega)
      rw [show 3 * (k / 3) + k % 3 = k by omega] at e
      exact e
  | succ s ih =>
    intro fu i μ hf hi h hg
    obtain ⟨fu, rfl⟩ : ∃ m, fu = m + 1 := ⟨fu - 1, by omega⟩
    have inner : ∀ (r fv j : Nat) (μ1 : mM) (kz : mM → Nat → Nat → Option Nat → Option Nat → Int32 → Option (Option Nat × mM × Nat × Nat)), r < fv → j + r = 3 → L9 μ1 x m → (∃ g : Nat → Int64, μ1 y = some (.inl (1, 9, .inr (.inl g))) ∧ (∀ a b : Nat, a < i → b < 3 → g (3 * b + a) = jz (turz m ((3 * b + a : Nat) : Int))) ∧ ∀ b : Nat, b < j → g (3 * b + i) = jz (turz m ((3 * b + i : Nat) : Int))) → ∃ μ', f_Matrix_back_23 kz fv μ1 zz ww (some x) (some y) (iz i) (iz j) = kz μ' zz ww (some x) (some y) (iz i) ∧ L9 μ' x m ∧ (∃ g : Nat → Int64, μ' y = some (.inl (1, 9, .inr (.inl g))) ∧ ∀ a b : Nat, a < i + 1 → b < 3 → g (3 * b + a) = jz (turz m ((3 * b + a : Nat) : Int))) ∧ ∀ c, c ≠ y → μ' c = μ1 c := by
      intro r
      induction r with
      | zero =>
        intro fv j μ1 kz hf hj h1 hg1
        obtain ⟨fv, rfl⟩ : ∃ m, fv = m + 1 := ⟨fv - 1, by omega⟩
        obtain ⟨g, g1, g2, g3⟩ := hg1
        refine ⟨μ1, ?_, h1, ⟨g, g1, fun a b ha hb => ?_⟩, fun _ _ => rfl⟩
        · rw [f_Matrix_back_23, zi_3, qle (iR_s (by omega) (by omega)) (iR_s (by omega) (by omega)), if_pos (by omega)]
        · by_cases c : a = i
          · rw [c]
            exact g3 b (by omega)
          · exact g2 a b (by omega) hb
      | succ r ihr =>
        intro fv j μ1 kz hf hj h1 hg1
        obtain ⟨fv, rfl⟩ : ∃ m, fv = m + 1 := ⟨fv - 1, by omega⟩
        obtain ⟨g, g1, g2, g3⟩ := hg1
        have et : turz m ((3 * j + i : Nat) : Int) = 4096 * cofz m i j := by
          unfold turz
          rw [show ((3 * j + i : Nat) : Int) % 3 = i by omega, show ((3 * j + i : Nat) : Int) / 3 = j by omega]
        have s1 : msJ μ1 (some y) (nI (3 * j + i)) (jz (turz m ((3 * j + i : Nat) : Int))) = some (mup μ1 y (.inl (1, 9, .inr (.inl (vp_updL g (3 * j + i) (jz (turz m ((3 * j + i : Nat) : Int)))))))) := msJ_i g1 (by omega) (by decide)
        obtain ⟨m2, s2, r2, t2, o2⟩ := ihr fv (j + 1) (mup μ1 y (.inl (1, 9, .inr (.inl (vp_updL g (3 * j + i) (jz (turz m ((3 * j + i : Nat) : Int)))))))) kz (by omega) (by omega) (l9_o h1 (mup_ne _ _ hxy)) ⟨_, mup_self _ _ _, fun a b ha hb => by
          have hne : ¬ 3 * b + a = 3 * j + i := by omega
          simp only [vp_updL, if_neg hne]
          exact g2 a b ha hb, fun b hb => by
          by_cases c : b = j
          · rw [c]
            simp [vp_updL]
          · have hne : ¬ 3 * b + i = 3 * j + i := by omega
            simp only [vp_updL, if_neg hne]
            exact g3 b (by omega)⟩
        refine ⟨m2, ?_, r2, t2, fun c hc => (o2 c hc).trans (mup_ne _ _ hc)⟩
        rw [f_Matrix_back_23, zi_3, qle (iR_s (by omega) (by omega)) (iR_s (by omega) (by omega)), if_neg (by omega), mx_cof h1 (by omega) (by omega), Option.bind_some, iz_mul, iz_add]
        change ((msJ μ1 (some y) (iz (3 * (j : Int) + i)) (jz 4096 * jz (cofz m i j))).bind _) = _
        rw [jz_mul, ← et, show 3 * (j : Int) + i = ((3 * j + i : Nat) : Int) by omega, ← nI_iz, s1, Option.bind_some, zi_1, iz_add]
        exact s2
    obtain ⟨g, g1, g2⟩ := hg
    obtain ⟨m1, s1, r1, t1, o1⟩ := inner 3 4096 0 μ (fun μ z w y2 y3 y4 => f_Matrix_back_56 (f_Matrix_back_14 kx fu) kx μ z w y2 y3 y4) (by omega) (by omega) h ⟨g, g1, g2, fun b hb => by omega⟩
    obtain ⟨m2, s2, r2, t2, o2⟩ := ih fu (i + 1) m1 (by omega) (by omega) r1 t1
    refine ⟨m2, ?_, r2, t2, fun c hc => (o2 c hc).trans (o1 c hc)⟩
    rw [f_Matrix_back_14, zi_3, qle (iR_s (by omega) (by omega)) (iR_s (by omega) (by omega)), if_neg (by omega)]
    refine (show _ = _ from s1).trans ?_
    show f_Matrix_back_56 (f_Matrix_back_14 kx fu) kx m1 zz ww (some x) (some y) (iz i) = _
    unfold f_Matrix_back_56
    rw [zi_1, iz_add]
    exact s2
theorem cof_det (m : Int → Int) : m 0 * cofz m 0 0 + m 1 * cofz m 0 1 + m 2 * cofz m 0 2 = detz m := by
  simp [cofz, detz]
theorem mx_back {pl n : Nat} {q b : Int → Int} (h : PLR μ pl n q) (hn : n ≤ 256) (hq : Byt q) {z w : Nat} (hpz : pl ≠ z) {off o : Int} (h0 : 0 ≤ off) (h1 : off + 20 ≤ n) (hW : ∀ i, 0 ≤ i → i < 9 → wz q (off + 2 + 2 * i) = wz b (o + 2 + 2 * i)) (hm : ∀ i, -32768 ≤ mxz b o i ∧ mxz b o i ≤ 32768) : ∃ μ', f_Matrix_back μ z w (some pl) (iz off) = some (some (z + 2), μ', z + 3, w + 22) ∧ L9 μ' z (mxz b o) ∧ L9 μ' (z + 1) (turz (mxz b o)) ∧ μ' (z + 2) = some (.inr (8, [.int (iz 10), .int (iz (bI (muL (mxz b o) 9 0))), .ref (z + 1), .long (jz (detz (mxz b o)))])) ∧ ∀ c, c ≠ z → c ≠ z + 1 → c ≠ z + 2 → μ' c = μ c := by
  obtain ⟨m1, s1, r1, o1⟩ := rd_fac h hn hq (w := w) hpz h0 h1 hW
  obtain ⟨m, em⟩ : ∃ m, mxz b o = m := ⟨_, rfl⟩
  rw [em] at r1 hm ⊢
  obtain ⟨m2, em2⟩ : ∃ m2, m2 = mup m1 (z + 1) (.inl (1, 9, .inr (.inl (fun _ => (0 : Int64))))) := ⟨_, rfl⟩
  have n2 : mna m1 (z + 1) 1 (nI 9) = some m2 := by rw [em2]; exact mna_1 (by decide)
  obtain ⟨m3, s3, r3, t3, o3⟩ := mx_tur (x := z) (y := z + 1) (by omega) (m := m) (zz := z + 2) (ww := w + 18) (fun μ z w y2 y3 => f_Matrix_back_62 μ z w y2 y3) 3 4096 0 m2 (by omega) (by omega) (l9_o r1 (by rw [em2]; exact mup_ne _ _ (by omega))) ⟨_, by rw [em2]; exact mup_self _ _ _, fun a b ha => by omega⟩
  obtain ⟨m4, em4⟩ : ∃ m4, m4 = mup m3 (z + 2) (.inr (8, [.int 0, .int 0, .null, .long 0])) := ⟨_, rfl⟩
  have r4 : L9 m4 z m := l9_o r3 (by rw [em4]; exact mup_ne _ _ (by omega))
  have t4 : L9 m4 (z + 1) (turz m) := l9_o t3 (by rw [em4]; exact mup_ne _ _ (by omega))
  refine ⟨mup m4 (z + 2) (.inr (8, [.int (iz 10), .int (iz (bI (muL m 9 0))), .ref (z + 1), .long (jz (detz m))])), ?_, l9_o r4 (mup_ne _ _ (by omega)), l9_o t4 (mup_ne _ _ (by omega)), mup_self _ _ _, fun c c1 c2 c3 => by rw [mup_ne _ _ c3, em4, mup_ne _ _ c3, o3 c c2, em2, mup_ne _ _ c2, o1 c c1]⟩
  unfold f_Matrix_back
  refine mmT_i (Nat.le_refl _) (Nat.le_refl _) ?_ (by show z ≤ z + 3; omega) (by show w ≤ w + 22; omega)
  rw [s1, Option.bind_some]
  refine mmT_i (by show z ≤ z + 1; omega) (by show w ≤ w + 9; omega) ?_ (by show z + 1 ≤ z + 3; omega) (by show w + 9 ≤ w + 22; omega)
  change ((mna m1 (z + 1) 1 (nI 9)).bind _) = _
  rw [n2, Option.bind_some, show ((9 : Int32)).toNatClampNeg = 9 by decide]
  refine mmT_i (by show z + 1 ≤ z + 1 + 1; omega) (by show w + 9 ≤ w + 9 + 9; omega) ?_ (by show z + 1 + 1 ≤ z + 3; omega) (by show w + 9 + 9 ≤ w + 22; omega)
  refine (show _ = _ from s3).trans ?_
  show f_Matrix_back_62 m3 (z + 2) (w + 18) (some z) (some (z + 1)) = _
  unfold f_Matrix_back_62 mnew
  have c0 : f_Matrix_cofactor m3 (some z) (0 : Int32) (0 : Int32) = some (jz (cofz m 0 0)) := mx_cof (i := 0) (j := 0) r3 (by omega) (by omega)
  have c1 : f_Matrix_cofactor m3 (some z) (0 : Int32) (1 : Int32) = some (jz (cofz m 0 1)) := mx_cof (i := 0) (j := 1) r3 (by omega) (by omega)
  have c2 : f_Matrix_cofactor m3 (some z) (0 : Int32) (2 : Int32) = some (jz (cofz m 0 2)) := mx_cof (i := 0) (j := 2) r3 (by omega) (by omega)
  have g0 : mgJ m3 (some z) (0 : Int32) = some (jz (m 0)) := l9_g (i := 0) r3 (by omega) (by omega)
  have g1 : mgJ m3 (some z) (1 : Int32) = some (jz (m 1)) := l9_g (i := 1) r3 (by omega) (by omega)
  have g2 : mgJ m3 (some z) (2 : Int32) = some (jz (m 2)) := l9_g (i := 2) r3 (by omega) (by omega)
  have ed := cof_det m
  rw [g0, Option.bind_some, c0, Option.bind_some, g1, Option.bind_some, c1, Option.bind_some, g2, Option.bind_some, c2, Option.bind_some, Option.bind_some, jz_mul, jz_mul, jz_mul, jz_add, jz_add, ed]
  refine mmT_i (by show z + 2 ≤ z + 2 + 1; omega) (by show w + 18 ≤ w + 18 + 4; omega) ?_ (by show z + 2 + 1 ≤ z + 3; omega) (by show w + 18 + 4 ≤ w + 22; omega)
  rw [← em4, mx_unit r4 hm, Option.bind_some, Option.bind_some]
  change ((f_Matrix_init (z + 2) m4 (iz 10) (iz (bI (muL m 9 0))) (some (z + 1)) (jz (detz m))).bind _) = _
  rw [mx_new (by rw [em4]; exact mup_self _ _ _), Option.bind_some]
end NEX
