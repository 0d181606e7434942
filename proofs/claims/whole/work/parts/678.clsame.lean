/-! elements, same and write of the class. -/
/-- what is kept of a profile beside its pieces -/
def KQ1 (φ : mM) (P : Nat) (b : Int → Int) : Prop := ∃ (pl : Nat) (rest : List Value) (f : Nat → Int32), φ P = some (.inr (9, .ref pl :: .int (iz (elz b)) :: rest)) ∧ φ pl = some (.inl (0, pln b, .inl f)) ∧ ∀ i : Nat, i < pln b → f i = iz (plq b i)
def KQ (φ : mM) (np : Nat) (K : Int → Int) (Pa : Nat → Nat) : Prop := ∀ p : Nat, p < np → KQ1 φ (Pa p) (bp K p) ∧ ∃ n : Nat, n ≤ 256 ∧ OKB (bp K p) n
theorem KQ1.mono {φ ψ : mM} {P : Nat} {b : Int → Int} (h : KQ1 φ P b) (hf : Fr φ ψ) : KQ1 ψ P b := by
  obtain ⟨pl, rest, f, h1, h2, h3⟩ := h
  exact ⟨pl, rest, f, hf _ _ h1, hf _ _ h2, h3⟩
section CSM
variable {φ μ : mM} {X : Nat} {K : Int → Int} {mc cc pr : Int32} {np : Nat} {Pa : Nat → Nat}
theorem kq_e {P : Nat} {b : Int → Int} (h : KQ1 φ P b) (hf : Fr φ μ) : ∃ pl f, mfA μ (some P) [9] 0 = some (some pl) ∧ mfI μ (some P) [9] 1 = some (iz (elz b)) ∧ mrc μ (some P) 9 = some P ∧ μ pl = some (.inl (0, pln b, .inl f)) ∧ ∀ i : Nat, i < pln b → f i = iz (plq b i) := by
  obtain ⟨pl, rest, f, h1, h2, h3⟩ := h
  exact ⟨pl, f, mfA_i (v := some pl) (hf _ _ h1) rfl rfl, mfI_i (hf _ _ h1) rfl rfl, mrc_i (hf _ _ h1), hf _ _ h2, h3⟩
theorem cl_elements (hx : μ X = some (.inr (10, xF X (nI np) mc cc pr))) (h3 : KP μ X np Pa) (hn : np ≤ 6) (hF : Fr φ μ) (hQ : KQ φ np K Pa) {p : Int} (ip : iR p) : f_CL_elements μ X (iz p) = some (iz (if 0 ≤ p ∧ p < np then elz (bp K p) else -1)) := by
  unfold f_CL_elements f_CL_elements_18
  rw [cl_profileAt hx h3 hn ip, Option.bind_some, zi_m1]
  by_cases c : 0 ≤ p ∧ p < np
  · obtain ⟨pl, f, e1, e2, -⟩ := kq_e (hQ p.toNat (by omega)).1 hF
    rw [if_pos c, if_neg (by intro w; cases w), e2, Option.bind_some, if_pos c, Int.toNat_of_nonneg c.1]
  · rw [if_neg c, if_pos rfl, if_neg c]
theorem cl_likeL {P Q pl ql n : Nat} {f g : Nat → Int32} {b b' : Int → Int} (hn : n ≤ 256) (hb : Byt b) (hb' : Byt b') (e1 : mfA μ (some P) [9] 0 = some (some pl)) (e2 : mfA μ (some Q) [9] 0 = some (some ql)) {n' : Nat} (r1 : μ pl = some (.inl (0, n, .inl f))) (r2 : μ ql = some (.inl (0, n', .inl g))) (hn' : n' ≤ 256) (hf : ∀ i : Nat, i < n → f i = iz (b i)) (hg : ∀ i : Nat, i < n' → g i = iz (b' i)) : ∀ (m fu j : Nat) (u : Bool), (u = true → n = n') → m < fu → j + m = n → f_Profile_isLike_21 μ P (fun y2 => f_Profile_isLike_61 μ P y2) fu (some Q) (iz (bI u)) (iz j) = some (iz (bI (u && eqB b b' m j))) := by
  intro m
  induction m with
  | zero =>
    intro fu j u hu hf' hm
    obtain ⟨fu, rfl⟩ : ∃ m, fu = m + 1 := ⟨fu - 1, by omega⟩
    rw [f_Profile_isLike_21, qbI, e1, Option.bind_some, ml_i r1 (by decide), Option.bind_some]
    show (if u = true then (if nI n ≤ iz j then f_Profile_isLike_61 μ P (iz (bI u)) else _) else f_Profile_isLike_61 μ P (iz (bI u))) = _
    rw [nI_iz, qle (iR_s (by omega) (by omega)) (iR_s (by omega) (by omega)), if_pos (show (n : Int) ≤ j by omega)]
    unfold eqB f_Profile_isLike_61
    rw [Bool.and_true, mz_b, Option.bind_some]
    cases u <;> rfl
  | succ m ih =>
    intro fu j u hu hf' hm
    obtain ⟨fu, rfl⟩ : ∃ m, fu = m + 1 := ⟨fu - 1, by omega⟩
    rw [f_Profile_isLike_21, qbI, e1, Option.bind_some, ml_i r1 (by decide), Option.bind_some]
    cases u
    · rw [if_neg (by decide), Bool.false_and]
      exact (congrArg (fun v => v.bind fun v7 => some v7) (mz_b false)).trans rfl
    · have q1 := hb (j : Int)
      have q2 := hb' (j : Int)
      have hu' := hu rfl
      show (if true = true then (if nI n ≤ iz j then _ else _) else _) = _
      rw [if_pos rfl, nI_iz n, qle (iR_s (by omega) (by omega)) (iR_s (by omega) (by omega)), if_neg (by omega), Option.bind_some, ← nI_iz j, mgI_i r1 (by omega) (by omega), Option.bind_some, e2, Option.bind_some, mgI_i r2 (by omega) (by omega), Option.bind_some, hf j (by omega), hg j (by omega), qeq (iR_s (by omega) (by omega)) (iR_s (by omega) (by omega))]
      unfold f_Profile_isLike_54
      rw [Bool.true_and]
      show _ = some (iz (bI (decide (b j = b' j) && eqB b b' m ((j : Int) + 1))))
      rw [nI_s]
      have ej : (j : Int) + 1 = ((j + 1 : Nat) : Int) := by omega
      rw [nI_iz (j + 1), ej]
      by_cases c : b j = b' j
      · rw [if_pos c, decide_eq_true c]
        exact ih fu (j + 1) true (fun _ => hu') (by omega) (by omega)
      · rw [if_neg c, decide_eq_false c]
        exact ih fu (j + 1) false (fun w => by cases w) (by omega) (by omega)
theorem cl_like {P Q : Nat} {b b' : Int → Int} {n n' : Nat} (hf : Fr φ μ) (hP : KQ1 φ P b) (hQ : KQ1 φ Q b') (hn : n ≤ 256) (hO : OKB b n) (hb : Byt b) (hn' : n' ≤ 256) (hO' : OKB b' n') (hb' : Byt b') : ((mrc μ (some P) 9).bind fun a => f_Profile_isLike μ a (some Q)) = some (iz (bI (lkB b b'))) := by
  obtain ⟨pl, f, e1, -, e3, r1, r2⟩ := kq_e hP hf
  obtain ⟨ql, g, e1', -, e3', r1', r2'⟩ := kq_e hQ hf
  have hN := pl_n hO hn hb
  have hN' := pl_n hO' hn' hb'
  rw [e3, Option.bind_some]
  unfold f_Profile_isLike f_Profile_isLike_18 lkB
  rw [e1, Option.bind_some, ml_i r1 (by decide), Option.bind_some, e1', Option.bind_some, ml_i r1' (by decide), Option.bind_some]
  show (if nI (pln b) = nI (pln b') then _ else _) = _
  rw [nI_iz, nI_iz, qeq (iR_s (by omega) (by omega)) (iR_s (by omega) (by omega))]
  have I := fun (u : Bool) (hu : u = true → pln b = pln b') => cl_likeL (μ := μ) (P := P) (Q := Q) (show pln b ≤ 256 by omega) (plq_R hO hn hb) (plq_R hO' hn' hb') e1 e1' r1 r1' (show pln b' ≤ 256 by omega) r2 r2' (pln b) 4096 0 u hu (by omega) (by omega)
  by_cases c : ((pln b : Nat) : Int) = ((pln b' : Nat) : Int)
  · have c' : pln b = pln b' := by omega
    rw [if_pos c, decide_eq_true c']
    exact I true (fun _ => c')
  · rw [if_neg c, decide_eq_false (fun w => c (by omega))]
    exact I false (fun w => by cases w)
theorem cl_same (hx : μ X = some (.inr (10, xF X (nI np) mc cc pr))) (h3 : KP μ X np Pa) (hn : np ≤ 6) (hF : Fr φ μ) (hQ : KQ φ np K Pa) (hB : ∀ p : Nat, p < np → Byt (bp K p)) {p q : Int} (ip : iR p) (iq : iR q) : f_CL_same μ X (iz p) (iz q) = some (iz (bI (decide ((0 ≤ p ∧ p < np) ∧ 0 ≤ q ∧ q < np) && sam (bp K p) (bp K q)))) := by
  unfold f_CL_same f_CL_same_35 f_CL_same_36
  rw [cl_profileAt hx h3 hn ip, Option.bind_some, cl_profileAt hx h3 hn iq, Option.bind_some, mz_0, mz_1, Option.bind_some, Option.bind_some]
  by_cases c : 0 ≤ p ∧ p < np
  · by_cases c2 : 0 ≤ q ∧ q < np
    · obtain ⟨k1, n, n1, n2⟩ := hQ p.toNat (by omega)
      obtain ⟨k2, n', n1', n2'⟩ := hQ q.toNat (by omega)
      have b1 := hB p.toNat (by omega)
      have b2 := hB q.toNat (by omega)
      rw [Int.toNat_of_nonneg c.1] at k1 n2 b1
      rw [Int.toNat_of_nonneg c2.1] at k2 n2' b2
      rw [if_pos c, if_pos c2, if_neg (by intro w; cases w), if_neg (by intro w; cases w), cl_like hF k1 k2 n1 n2 b1 n1' n2' b2, Option.bind_some, qbI, decide_eq_true (show (0 ≤ p ∧ p < np) ∧ 0 ≤ q ∧ q < np from ⟨c, c2⟩), Bool.true_and, sam_lk n2 n1 b1 n2' n1' b2]
      cases lkB (bp K p) (bp K q) <;> rfl
    · rw [if_pos c, if_neg c2, if_neg (by intro w; cases w), if_pos rfl, decide_eq_false (fun w => c2 w.2)]
      rfl
  · rw [if_neg c, if_pos rfl, decide_eq_false (fun w => c w.1)]
    rfl
theorem cl_write (hx : μ X = some (.inr (10, xF X (nI np) mc cc pr))) (h3 : KP μ X np Pa) (hn : np ≤ 6) (hF : Fr φ μ) (hX : φ X = none ∧ φ (X + 1) = none ∧ φ (X + 2) = none) (hQ : KQ φ np K Pa) (hB : ∀ p : Nat, p < np → Byt (bp K p)) {nb : Nat} {bb : Int → Int} (hU : BU μ X nb bb) {p : Int} (ip : iR p) : (¬ (0 ≤ p ∧ p < np) → f_CL_write X μ (iz p) = some (iz (-1), μ)) ∧ ((0 ≤ p ∧ p < np) → ∃ μ', f_CL_write X μ (iz p) = some (nI (pln (bp K p)), μ') ∧ BU μ' X (pln (bp K p)) (plq (bp K p)) ∧ ∀ c, c ≠ X + 1 → c ≠ X + 2 → μ' c = μ c) := by
  unfold f_CL_write
  rw [cl_profileAt hx h3 hn ip, Option.bind_some, zi_m1]
  refine ⟨fun c => by rw [if_neg c, if_pos rfl], fun c => ?_⟩
  obtain ⟨k1, n, n1, n2⟩ := hQ p.toNat (by omega)
  have b1 := hB p.toNat (by omega)
  obtain ⟨pl0, rest, f0, w1, w2, w3⟩ := k1
  have k1 : KQ1 φ (Pa p.toNat) (bp K ((p.toNat : Nat) : Int)) := ⟨pl0, rest, f0, w1, w2, w3⟩
  obtain ⟨pl, f, e1, -, e3, r1, r2⟩ := kq_e k1 hF
  have epl : pl = pl0 := by
    have := mfA_i (v := some pl0) (k := 0) (cs := [9]) (hF _ _ w1) rfl rfl
    rw [e1] at this
    exact Option.some.inj (Option.some.inj this)
  rw [Int.toNat_of_nonneg c.1] at n2 b1 r1 r2 w2
  have hN := pl_n n2 n1 b1
  have hp1 : pl ≠ X + 1 := fun w => by rw [epl] at w; rw [w, hX.2.1] at w2; cases w2
  have hp2 : pl ≠ X + 2 := fun w => by rw [epl] at w; rw [w, hX.2.2] at w2; cases w2
  obtain ⟨b, eb⟩ : ∃ b, bp K p = b := ⟨_, rfl⟩
  rw [eb] at r1 r2 n2 b1 hN ⊢
  obtain ⟨g1, g, g2, g3⟩ := hU
  obtain ⟨m1, s1, em1⟩ : ∃ m1, mpI μ (some (X + 1)) [1] 1 (nI (pln b)) = some m1 ∧ m1 = mup μ (X + 1) (.inr (1, [.ref (X + 2), .int (nI (pln b))])) := ⟨_, mpV_i g1 rfl (show 1 < 2 by decide), rfl⟩
  have a1 : m1 (X + 1) = some (.inr (1, [.ref (X + 2), .int (nI (pln b))])) := by rw [em1]; exact mup_self _ _ _
  have a2 : m1 (X + 2) = some (.inl (0, 256, .inl g)) := by rw [em1]; exact (mup_ne _ _ (by omega)).trans g2
  have a3 : m1 pl = some (.inl (0, pln b, .inl f)) := by rw [em1]; exact (mup_ne _ _ hp1).trans r1
  have a0 : m1 X = some (.inr (10, xF X (nI np) mc cc pr)) := by rw [em1]; exact (mup_ne _ _ (by omega)).trans hx
  obtain ⟨m2, em2⟩ : ∃ m2, m2 = mup m1 (X + 2) (.inl (0, 256, .inl (va_cpy f g 0 0 (pln b)))) := ⟨_, rfl⟩
  have s2 : mcopy m1 (some pl) (nI 0) (some (X + 2)) (nI 0) (nI (pln b)) = some m2 := by
    rw [em2]
    exact mcopy_i a3 a2 (by omega) (by omega) (by omega) (by decide)
  have B2 : BU m2 X (pln b) (plq b) := by
    refine ⟨by rw [em2]; exact (mup_ne _ _ (by omega)).trans a1, _, by rw [em2]; exact mup_self _ _ _, fun i hi => ?_⟩
    unfold va_cpy
    rw [if_pos (by omega), show 0 + (i - 0) = i by omega, r2 i hi]
  refine ⟨m2, ?_, B2, fun c c1 c2 => by rw [em2, mup_ne _ _ c2, em1, mup_ne _ _ c1]⟩
  rw [if_pos c, if_neg (by intro w; cases w), (xf_e hx).2.1, Option.bind_some, e1, Option.bind_some, mrc_i g1, Option.bind_some]
  unfold f_Buffer_load
  have hj : jminI (nI (pln b)) (256 : Int32) = nI (pln b) := by
    unfold jminI
    rw [zi_256, nI_iz]
    by_cases w : (256 : Int) < pln b
    · omega
    · rw [if_neg (fun q => w ((iz_lt (iR_s (by omega) (by omega)) (iR_s (by omega) (by omega))).mp q))]
  rw [ml_i r1 (by decide), Option.bind_some]
  change (((mpI μ (some (X + 1)) [1] 1 (jminI (nI (pln b)) (256 : Int32))).bind _).bind _) = _
  rw [hj, s1, Option.bind_some, mfA_i (v := some (X + 2)) a1 rfl rfl, Option.bind_some, mfI_i (v := nI (pln b)) a1 rfl rfl, Option.bind_some]
  change (((mcopy m1 (some pl) (nI 0) (some (X + 2)) (nI 0) (nI (pln b))).bind _).bind _) = _
  rw [s2, Option.bind_some, Option.bind_some, (xf_e (show m2 X = some (.inr (10, xF X (nI np) mc cc pr)) by rw [em2]; exact (mup_ne _ _ (by omega)).trans a0)).2.1, Option.bind_some, (bu_e B2).2.2, Option.bind_some]
end CSM
