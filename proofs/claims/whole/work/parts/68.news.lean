/-! The pieces of a profile being made. -/
/-- the plain row, as it stands -/
def PLR (μ : mM) (pl n : Nat) (q : Int → Int) : Prop := ∃ f : Nat → Int32, μ pl = some (.inl (0, n, .inl f)) ∧ ∀ i : Nat, i < n → f i = iz (q i)
theorem plr_g {μ : mM} {pl n : Nat} {q : Int → Int} (h : PLR μ pl n q) (hn : n ≤ 256) {i : Int} (h0 : 0 ≤ i) (h1 : i < n) : mgI μ (some pl) (iz i) = some (iz (q i)) := by
  obtain ⟨f, h2, h3⟩ := h
  rw [iz_nat h0, mgI_i h2 (by omega) (by omega), h3 _ (by omega), Int.toNat_of_nonneg h0]
theorem plr_o {μ μ' : mM} {pl n : Nat} {q : Int → Int} (h : PLR μ pl n q) (he : μ' pl = μ pl) : PLR μ' pl n q := by
  obtain ⟨f, h2, h3⟩ := h
  exact ⟨f, he.trans h2, h3⟩
theorem plr_w {μ : mM} {pl n : Nat} {q : Int → Int} (h : PLR μ pl n q) (hn : n ≤ 256) {i : Int} (h0 : 0 ≤ i) (h1 : i + 1 < n) : f_CL_wordAt μ (some pl) (iz i) = some (iz (wz q i)) := by
  unfold f_CL_wordAt
  rw [plr_g h hn h0 (by omega), Option.bind_some, zi_1, iz_add, plr_g h hn (by omega) h1, Option.bind_some, zi_256, iz_mul, iz_add]
  rfl
theorem mpI_i {μ : mM} {a ci k : Nat} {cs : List Nat} {fs : List Value} (h : μ a = some (.inr (ci, fs))) (hc : cs.contains ci = true) (hk : k < fs.length) (x : Int32) : mpI μ (some a) cs k x = some (mup μ a (.inr (ci, fs.set k (.int x)))) := mpV_i h hc hk
theorem mpA_i {μ : mM} {a ci k : Nat} {cs : List Nat} {fs : List Value} (h : μ a = some (.inr (ci, fs))) (hc : cs.contains ci = true) (hk : k < fs.length) (x : Option Nat) : mpA μ (some a) cs k x = some (mup μ a (.inr (ci, fs.set k (va_rf x)))) := mpV_i h hc hk
theorem mpJ_i {μ : mM} {a ci k : Nat} {cs : List Nat} {fs : List Value} (h : μ a = some (.inr (ci, fs))) (hc : cs.contains ci = true) (hk : k < fs.length) (x : Int64) : mpJ μ (some a) cs k x = some (mup μ a (.inr (ci, fs.set k (.long x)))) := mpV_i h hc hk
theorem mpZ_b {μ : mM} {a ci k : Nat} {cs : List Nat} {fs : List Value} (h : μ a = some (.inr (ci, fs))) (hc : cs.contains ci = true) (hk : k < fs.length) (u : Bool) : mpZ μ (some a) cs k (iz (bI u)) = some (mup μ a (.inr (ci, fs.set k (.int (iz (bI u)))))) := by
  unfold mpZ
  rw [if_pos (by cases u; exact Or.inl rfl; exact Or.inr rfl)]
  exact mpV_i h hc hk
theorem pc_init {μ : mM} {a ci : Nat} {fs : List Value} (h : μ a = some (.inr (ci, fs))) (hc : [0, 3, 4, 5, 6, 8].contains ci = true) (hl : 2 ≤ fs.length) (kd : Int) (u : Bool) : f_Piece_init a μ (iz kd) (iz (bI u)) = some (mup μ a (.inr (ci, (fs.set 0 (.int (iz kd))).set 1 (.int (iz (bI u)))))) := by
  unfold f_Piece_init
  rw [mpI_i h hc (by omega), Option.bind_some, mpZ_b (mup_self _ _ _) hc (by rw [List.length_set]; omega), Option.bind_some, mup_mup]
section NEW
variable {μ : mM} {pl n : Nat} {q : Int → Int}
theorem cv_new (h : PLR μ pl n q) (hn : n ≤ 256) {a z w : Nat} (ha : μ a = some (.inr (2, [.int 0, .null]))) (haz : a ≠ z) (hpa : pl ≠ a) (hpz : pl ≠ z) {off G N : Int} {W : Int → Int} (h0 : 0 ≤ off) (hq : Byt q) (h2 : q off = 2 → G = q (off + 1) ∧ 1 ≤ G ∧ N = 2) (h3 : q off ≠ 2 → G = 0 ∧ N = q (off + 1)) (hW : ∀ i, 0 ≤ i → i < N → wz q (off + 2 + 2 * i) = W i) (hN : 0 ≤ N ∧ N ≤ 24) (hl : off + 2 + 2 * N ≤ n) : ∃ μ' f, f_Curve_init a μ z w (some pl) (iz off) = some (μ', z + 1, w + N.toNat) ∧ μ' a = some (.inr (2, [.int (iz G), .ref z])) ∧ μ' z = some (.inl (0, N.toNat, .inl f)) ∧ (∀ i : Nat, (i : Int) < N → f i = iz (W i)) ∧ ∀ c, c ≠ a → c ≠ z → μ' c = μ c := by
  have q0 := hq off
  have q1 := hq (off + 1)
  have hG : 0 ≤ G ∧ G < 256 := by
    by_cases c : q off = 2
    · have := h2 c; omega
    · have := h3 c; omega
  obtain ⟨m1, em1⟩ : ∃ m1, m1 = mup μ a (.inr (2, [.int (iz G), .null])) := ⟨_, rfl⟩
  obtain ⟨m2, em2⟩ : ∃ m2, m2 = mup m1 z (.inl (0, N.toNat, .inl (fun _ => (0 : Int32)))) := ⟨_, rfl⟩
  obtain ⟨m3, em3⟩ : ∃ m3, m3 = mup m2 a (.inr (2, [.int (iz G), .ref z])) := ⟨_, rfl⟩
  have a1 : m1 a = some (.inr (2, [.int (iz G), .null])) := by rw [em1]; exact mup_self _ _ _
  have a2 : m2 a = some (.inr (2, [.int (iz G), .null])) := by rw [em2]; exact (mup_ne _ _ haz).trans a1
  have o3 : ∀ c, c ≠ a → c ≠ z → m3 c = μ c := fun c c1 c2 => by rw [em3, mup_ne _ _ c1, em2, mup_ne _ _ c2, em1, mup_ne _ _ c1]
  have loop : ∀ (j fu i : Nat) (m : mM) (g : Nat → Int32), j < fu → (i : Int) + j = N → m a = some (.inr (2, [.int (iz G), .ref z])) → m z = some (.inl (0, N.toNat, .inl g)) → (∀ k : Nat, k < i → g k = iz (W k)) → (∀ c, c ≠ a → c ≠ z → m c = μ c) → ∃ μ' f, f_Curve_init_48 a (fun μ z w => f_Curve_init_80 a μ z w) fu m (z + 1) (w + N.toNat) (some pl) (iz off) (iz i) = some (μ', z + 1, w + N.toNat) ∧ μ' a = some (.inr (2, [.int (iz G), .ref z])) ∧ μ' z = some (.inl (0, N.toNat, .inl f)) ∧ (∀ i : Nat, (i : Int) < N → f i = iz (W i)) ∧ ∀ c, c ≠ a → c ≠ z → μ' c = μ c := by
    intro j
    induction j with
    | zero =>
      intro fu i m g hf hi b1 b2 hg ho
      obtain ⟨fu, rfl⟩ : ∃ m, fu = m + 1 := ⟨fu - 1, by omega⟩
      refine ⟨m, g, ?_, b1, b2, fun k hk => hg k (by omega), ho⟩
      rw [f_Curve_init_48, mfA_i (v := some z) b1 rfl rfl, Option.bind_some, ml_i b2 (by decide), Option.bind_some]
      show (if nI N.toNat ≤ iz i then _ else _) = _
      rw [nI_iz, qle (iR_s (by omega) (by omega)) (iR_s (by omega) (by omega)), if_pos (by omega)]
      rfl
    | succ j ih =>
      intro fu i m g hf hi b1 b2 hg ho
      obtain ⟨fu, rfl⟩ : ∃ m, fu = m + 1 := ⟨fu - 1, by omega⟩
      have hp : PLR m pl n q := plr_o h (ho _ hpa hpz)
      have s1 : msI m (some z) (nI i) (iz (W i)) = some (mup m z (.inl (0, N.toNat, .inl (upd g i (iz (W i)))))) := msI_i b2 (by omega) (by omega)
      obtain ⟨m', f, r1, r2, r3, r4, r5⟩ := ih fu (i + 1) (mup m z (.inl (0, N.toNat, .inl (upd g i (iz (W i)))))) _ (by omega) (by omega) ((mup_ne _ _ haz).trans b1) (mup_self _ _ _) (fun k hk => by
        unfold upd
        by_cases c : k = i
        · rw [if_pos c, c]
        · rw [if_neg c]; exact hg k (by omega)) (fun c c1 c2 => (mup_ne _ _ c2).trans (ho c c1 c2))
      refine ⟨m', f, ?_, r2, r3, r4, r5⟩
      rw [f_Curve_init_48, mfA_i (v := some z) b1 rfl rfl, Option.bind_some, ml_i b2 (by decide), Option.bind_some]
      show (if nI N.toNat ≤ iz i then _ else _) = _
      rw [nI_iz N.toNat, qle (iR_s (by omega) (by omega)) (iR_s (by omega) (by omega)), if_neg (by omega), Option.bind_some, zi_2, iz_add, iz_mul, iz_add, plr_w hp hn (by omega) (by omega), Option.bind_some, hW i (by omega) (by omega), ← nI_iz i, s1, Option.bind_some, nI_s, nI_iz]
      exact r1
  obtain ⟨m', f, r1, r2, r3, r4, r5⟩ := loop N.toNat 4096 0 m3 _ (by omega) (by omega) (by rw [em3]; exact mup_self _ _ _) (by rw [em3, mup_ne _ _ (Ne.symm haz), em2]; exact mup_self _ _ _) (fun k hk => by omega) o3
  refine ⟨m', f, ?_, r2, r3, r4, r5⟩
  have e41 : f_Curve_init_41 a m1 z w (some pl) (iz off) (some a) (nI N.toNat) = some (m', z + 1, w + N.toNat) := by
    unfold f_Curve_init_41
    rw [mna_0 (by omega), Option.bind_some, nI_clamp (by omega)]
    refine mmV_i (by omega) (by omega) ?_ (Nat.le_refl _) (Nat.le_refl _)
    rw [← em2, mpA_i a2 rfl (show 1 < 2 by decide), Option.bind_some]
    show f_Curve_init_48 a _ 4096 (mup m2 a (.inr (2, [.int (iz G), .ref z]))) _ _ _ _ _ = _
    rw [← em3]
    exact r1
  have e21 : f_Curve_init_21 a μ z w (some pl) (iz off) (some a) (iz G) = some (m', z + 1, w + N.toNat) := by
    unfold f_Curve_init_21
    have e0 : mpI μ (some a) [2] 0 (iz G) = some m1 := by
      rw [em1]
      exact mpI_i ha rfl (show 0 < 2 by decide) _
    rw [e0, Option.bind_some, mfI_i (v := iz G) a1 rfl rfl, Option.bind_some]
    rw [zi_0, qle (iR_s (by omega) (by omega)) (iR_s (by omega) (by omega))]
    have hp1 : PLR m1 pl n q := plr_o h (by rw [em1]; exact mup_ne _ _ hpa)
    by_cases c : q off = 2
    · obtain ⟨d1, d2, d3⟩ := h2 c
      rw [if_neg (by omega), ← e41]
      rw [d3]
      rfl
    · obtain ⟨d1, d2⟩ := h3 c
      rw [if_pos (by omega), zi_1, iz_add, plr_g hp1 hn (by omega) (by omega), Option.bind_some, ← d2, iz_nat hN.1]
      exact e41
  unfold f_Curve_init
  refine mmV_i (Nat.le_refl _) (Nat.le_refl _) ?_ (by show z ≤ z + 1; omega) (by show w ≤ w + N.toNat; omega)
  rw [plr_g h hn h0 (by omega), Option.bind_some, zi_2, qeq (iR_s (by omega) (by omega)) (iR_s (by omega) (by omega))]
  by_cases c : q off = 2
  · obtain ⟨d1, d2, d3⟩ := h2 c
    rw [if_pos c, zi_1, iz_add, plr_g h hn (by omega) (by omega), Option.bind_some, ← d1]
    exact e21
  · obtain ⟨d1, d2⟩ := h3 c
    rw [if_neg c, zi_0, ← d1]
    exact e21
theorem gd_new (h : PLR μ pl n q) (hn : n ≤ 256) {a z w : Nat} (ha : μ a = some (.inr (5, [.int 0, .int 0, .null, .int 0, .int 0, .null]))) (haz : a ≠ z) (hpa : pl ≠ a) (hpz : pl ≠ z) {off : Int} (h0 : 0 ≤ off) (h1 : off + 1 < n) : ∃ μ', f_Grid_init a μ z w (some pl) (iz off) = some (μ', z + 1, w + 3) ∧ μ' a = some (.inr (5, [.int (iz 3), .int 0, .ref pl, .int (iz (off + 2)), .int (iz (q (off + 1))), .ref z])) ∧ μ' z = some (.inl (0, 3, .inl (fun _ => (0 : Int32)))) ∧ ∀ c, c ≠ a → c ≠ z → μ' c = μ c := by
  obtain ⟨m1, em1⟩ : ∃ m1, m1 = mup μ a (.inr (5, [.int (iz 3), .int (iz (bI false)), .null, .int 0, .int 0, .null])) := ⟨_, rfl⟩
  obtain ⟨m2, em2⟩ : ∃ m2, m2 = mup m1 z (.inl (0, 3, .inl (fun _ => (0 : Int32)))) := ⟨_, rfl⟩
  have a1 : m1 a = some (.inr (5, [.int (iz 3), .int (iz (bI false)), .null, .int 0, .int 0, .null])) := by rw [em1]; exact mup_self _ _ _
  have a2 : m2 a = some (.inr (5, [.int (iz 3), .int (iz (bI false)), .null, .int 0, .int 0, .null])) := by rw [em2]; exact (mup_ne _ _ haz).trans a1
  have hp : ∀ e, PLR (mup m2 a e) pl n q := fun e => plr_o h (by rw [mup_ne _ _ hpa, em2, mup_ne _ _ hpz, em1, mup_ne _ _ hpa])
  refine ⟨mup m2 a (.inr (5, [.int (iz 3), .int 0, .ref pl, .int (iz (off + 2)), .int (iz (q (off + 1))), .ref z])), ?_, mup_self _ _ _, by rw [mup_ne _ _ (Ne.symm haz), em2]; exact mup_self _ _ _, fun c c1 c2 => by rw [mup_ne _ _ c1, em2, mup_ne _ _ c2, em1, mup_ne _ _ c1]⟩
  unfold f_Grid_init
  refine mmV_i (Nat.le_refl _) (Nat.le_refl _) ?_ (by show z ≤ z + 1; omega) (by show w ≤ w + 3; omega)
  rw [Option.bind_some, zi_3]
  change ((f_Piece_init a μ (iz 3) (iz (bI false))).bind _) = _
  rw [pc_init ha rfl (by decide), Option.bind_some]
  change ((mna (mup μ a (.inr (5, [.int (iz 3), .int (iz (bI false)), .null, .int 0, .int 0, .null]))) z 0 (nI 3)).bind _) = _
  rw [← em1, mna_0 (by decide), Option.bind_some, ← em2]
  refine mmV_i (by omega) (by omega) ?_ (by show z + 1 ≤ z + 1; omega) (by show w + (iz 3).toNatClampNeg ≤ w + 3; rw [show (iz 3).toNatClampNeg = 3 by decide]; omega)
  rw [mpA_i a2 rfl (show 5 < 6 by decide), Option.bind_some, mpA_i (mup_self _ _ _) rfl (show 2 < 6 by decide), Option.bind_some, mup_mup, mpI_i (mup_self _ _ _) rfl (show 3 < 6 by decide), Option.bind_some, mup_mup, zi_1, iz_add, plr_g (hp _) hn (by omega) (by omega), Option.bind_some, mpI_i (mup_self _ _ _) rfl (show 4 < 6 by decide), Option.bind_some, mup_mup, zi_2, iz_add]
  rfl
theorem gy_new {a : Nat} (ha : μ a = some (.inr (4, [.int 0, .int 0, .int 0]))) {kd sp : Int} : f_Gray_init a μ (iz kd) (iz sp) = some (mup μ a (.inr (4, [.int (iz kd), .int 0, .int (iz sp)]))) := by
  unfold f_Gray_init
  rw [Option.bind_some]
  change ((f_Piece_init a μ (iz kd) (iz (bI false))).bind _) = _
  rw [pc_init ha rfl (by decide), Option.bind_some, mpI_i (mup_self _ _ _) rfl (show 2 < 3 by decide), Option.bind_some, mup_mup]
  rfl
end NEW
