/-! The class's adjustment and passage. -/
theorem PW.mono {φ ψ : mM} {P : Nat} {wh bl : Int → Int} (h : PW φ P wh bl) (hf : Fr φ ψ) : PW ψ P wh bl := by
  obtain ⟨fs, wa, ba, f, g, h1, h2, h3, h4, h5, h6, h7⟩ := h
  exact ⟨fs, wa, ba, f, g, hf _ _ h1, h2, h3, hf _ _ h4, h5, hf _ _ h6, h7⟩
theorem PB.mono {φ ψ : mM} {K : Int → Int} {x : Option Nat} {l : List Pz} (h : PB φ K x l) (hf : Fr φ ψ) : PB ψ K x l := by
  rcases h with h | ⟨a, q, u, h1, h2, h3, ⟨ci, fs, h4, h5⟩, h6⟩
  · exact Or.inl h
  · exact Or.inr ⟨a, q, u, h1, fun e => (h2 e).mono hf, h3.mono hf, ⟨ci, fs, hf _ _ h4, h5⟩, h6⟩
theorem pf_5 {K : Int → Int} {p : Int} : pf K (5, p, 0, 0) = fun c => v3 (lab0 (c 1)) (lab1 (c 0) (c 1)) (lab2 (c 1) (c 2)) := by
  funext c
  show pfz K 5 p 0 0 c = _
  unfold pfz
  rw [if_neg (by decide), if_neg (by decide), if_neg (by decide), if_neg (by decide), if_pos rfl]
theorem pf_6 {K : Int → Int} {p : Int} : pf K (6, p, 0, 0) = fun c => v3 (xyz0 (c 0) (c 1)) (xyz1 (c 0)) (xyz2 (c 0) (c 2)) := by
  funext c
  show pfz K 6 p 0 0 c = _
  unfold pfz
  rw [if_neg (by decide), if_neg (by decide), if_neg (by decide), if_neg (by decide), if_neg (by decide), if_pos rfl]
theorem pf_7 {K : Int → Int} {p x y : Int} : pf K (7, p, x, y) = sclz (whz (bp K p)) (whz (bp K x)) := by
  funext c
  show pfz K 7 p x y c = _
  unfold pfz
  rw [if_neg (by decide), if_neg (by decide), if_neg (by decide), if_neg (by decide), if_neg (by decide), if_neg (by decide), if_pos rfl]
theorem pf_8 {K : Int → Int} {p x y : Int} : pf K (8, p, x, y) = blkz x y := by
  funext c
  show pfz K 8 p x y c = _
  unfold pfz
  rw [if_neg (by decide), if_neg (by decide), if_neg (by decide), if_neg (by decide), if_neg (by decide), if_neg (by decide), if_neg (by decide), if_pos rfl]
theorem pb_lab {φ : mM} {K : Int → Int} {a : Nat} (h : LX φ a 5) (p : Int) : PB φ K (some a) [(5, p, 0, 0)] := by
  refine PO.pb (Or.inr ⟨a, (5, p, 0, 0), false, rfl, ?_, LO.of h rfl, rfl, fun u => by cases u⟩)
  show PcR φ a 5 (pf K (5, p, 0, 0))
  rw [pf_5]
  exact pc_lab h
theorem pb_xyz {φ : mM} {K : Int → Int} {a : Nat} (h : LX φ a 6) (p : Int) : PB φ K (some a) [(6, p, 0, 0)] := by
  refine PO.pb (Or.inr ⟨a, (6, p, 0, 0), false, rfl, ?_, LO.of h rfl, rfl, fun u => by cases u⟩)
  show PcR φ a 6 (pf K (6, p, 0, 0))
  rw [pf_6]
  exact pc_xyz h
/-- a new frozen cell at z -/
theorem fr_new {φ μ : mM} {z : Nat} {e : mE} (hF : Fr φ μ) (hz : μ z = none) (hm : μ z = none → True) : Fr φ (mup φ z e) := by
  intro a x hx
  have : a ≠ z := fun q => by
    have := hF _ _ hx
    rw [q, hz] at this
    cases this
  rw [mup_ne _ _ this]
  exact hx
theorem sc_new {φ : mM} {z ci : Nat} {fs : List Value} (hc : ci ≠ 5) (hz : φ z = none) {b : Nat} (h : Sc (mup φ z (.inr (ci, fs))) b) : Sc φ b := by
  obtain ⟨a, gs, h1, h2⟩ := h
  by_cases e : a = z
  · rw [e, mup_self] at h1
    cases h1
    exact absurd rfl hc
  · rw [mup_ne _ _ e] at h1
    exact ⟨a, gs, h1, h2⟩
def lS (K : Int → Int) (a b it : Int) (bk : Bool) : List Pz := if ndz K a b it bk then [(if scz K a b it then 7 else 8, a, if scz K a b it then b else drk K a it bk, drk K b it bk)] else []
section PSG
variable {φ μ : mM} {P Q z w : Nat} {K : Int → Int} {a b it : Int} {bk : Bool}
theorem cl_adj (hk : POK K a b it bk) (h3 : it = 3 → bk = false) (hP : PW φ P (whz (bp K a)) (fun it => blz K a it)) (hQ : PW φ Q (whz (bp K b)) (fun it => blz K b it)) (hF : Fr φ μ) (hz : ∀ c, z ≤ c → μ c = none) : ∃ x μ' z' w' φ', f_CL_adjustment μ z w (some P) (some Q) (iz it) (iz (bI bk)) = some (x, μ', z', w') ∧ z ≤ z' ∧ z' ≤ z + 1 ∧ w ≤ w' ∧ w' ≤ w + 5 ∧ Fr φ φ' ∧ Fr φ' μ' ∧ (∀ c, c < z → μ' c = μ c) ∧ (∀ c, c < z → φ' c = φ c) ∧ (∀ c, z' ≤ c → μ' c = none) ∧ (∀ c, Sc φ' c → Sc φ c) ∧ (x = none ↔ ndz K a b it bk = false) ∧ PB φ' K x (lS K a b it bk) := by
  obtain ⟨ha, hA, hb, hB, hi, ho, hs, hd⟩ := hk
  have hzz := hz z (Nat.le_refl z)
  have hfz : φ z = none := by
    cases e : φ z with
    | none => rfl
    | some x =>
      have := hF _ _ e
      rw [hzz] at this
      cases this
  have mk : ∀ (kd : Int) (l : List Pz), (∀ ψ : mM, Fr φ ψ → AJ ψ z kd P Q it → PB ψ K (some z) l) → ∃ μ' φ', f_Adjust_init z (mup μ z (.inr (0, [.int 0, .int 0, .null, .null, .int 0]))) (iz kd) (some P) (some Q) (iz it) = some μ' ∧ Fr φ φ' ∧ Fr φ' μ' ∧ (∀ c, c < z → μ' c = μ c) ∧ (∀ c, c < z → φ' c = φ c) ∧ (∀ c, z + 1 ≤ c → μ' c = none) ∧ (∀ c, Sc φ' c → Sc φ c) ∧ PB φ' K (some z) l := by
    intro kd l hl
    obtain ⟨m1, s1, k1, o1⟩ := aj_new (μ := μ) (z := z) (P := P) (Q := Q) (kd := kd) (it := it)
    have f1 : Fr φ (mup φ z (.inr (0, [.int (iz kd), .int 0, .ref P, .ref Q, .int (iz it)]))) := fr_new hF hzz (fun _ => trivial)
    refine ⟨m1, _, s1, f1, fun c e he => ?_, fun c hc => o1 c (by omega), fun c hc => mup_ne _ _ (by omega), fun c hc => ?_, fun c hc => sc_new (by decide) hfz hc, hl _ f1 (mup_self _ _ _)⟩
    · by_cases hcz : c = z
      · rw [hcz, mup_self] at he
        cases he
        rw [hcz]
        exact k1
      · rw [mup_ne _ _ hcz] at he
        rw [o1 c hcz]
        exact hF _ _ he
    · rw [o1 c (by omega)]
      exact hz c (by omega)
  unfold f_CL_adjustment f_CL_adjustment_52
  rw [cl_needs hP hQ hF hA hB hi, Option.bind_some]
  have eN : ndz K a b it bk = (scz K a b it || decide (drk K a it bk ≠ drk K b it bk)) := rfl
  cases hsc : scz K a b it with
  | true =>
    rw [hsc, Bool.true_or] at eN
    have hsc' := hsc
    unfold scz at hsc'
    rw [Bool.and_eq_true] at hsc'
    have e3 := of_decide_eq_true hsc'.1
    have hw0 := hs e3 hsc'.2
    unfold wz0 at hw0
    have w' := of_decide_eq_false hw0
    have hw : ∀ i : Nat, i < 3 → 0 < whz (bp K b) i ∧ whz (bp K b) i ≤ 65535 := lt3 (by
      have := whz_R hB (i := 0) (by omega) (by omega)
      have t1 := this.1
      have t2 := this.2
      show 0 < whz (bp K b) 0 ∧ _
      exact ⟨by omega, t2⟩) (by
      have := whz_R hB (i := 1) (by omega) (by omega)
      have t1 := this.1
      have t2 := this.2
      show 0 < whz (bp K b) 1 ∧ _
      exact ⟨by omega, t2⟩) (by
      have := whz_R hB (i := 2) (by omega) (by omega)
      have t1 := this.1
      have t2 := this.2
      show 0 < whz (bp K b) 2 ∧ _
      exact ⟨by omega, t2⟩)
    obtain ⟨m1, φ', s1, f1, f2, f3, f4, f5, f6, f7⟩ := mk 7 (lS K a b it bk) (fun ψ hψ hj => by
      unfold lS
      rw [eN, hsc, if_pos rfl, if_pos rfl, if_pos rfl]
      refine PO.pb (Or.inr ⟨z, (7, a, b, drk K b it bk), false, rfl, ?_, LO.of hj rfl, rfl, fun u => by cases u⟩)
      show PcR ψ z 7 (pf K (7, a, b, drk K b it bk))
      rw [pf_7]
      exact pc_scale hj (hP.mono hψ) (hQ.mono hψ) (fun i hi => whz_R hA (by omega) (by omega)) hw)
    refine ⟨some z, m1, z + 1, w + 5, φ', ?_, by omega, by omega, by omega, by omega, f1, f2, f3, f4, f5, f6, by rw [eN]; simp, f7⟩
    apply mmT_i (Nat.le_refl _) (Nat.le_refl _)
    · rw [if_neg (by decide)]
      unfold mnew
      rw [Option.bind_some]
      exact mmT_i (by omega) (by omega) (by rw [Option.bind_some, zi_7, s1, Option.bind_some]) (Nat.le_refl _) (Nat.le_refl _)
    · show z ≤ z + 1
      omega
    · show w ≤ w + 5
      omega
  | false =>
    rw [hsc, Bool.false_or] at eN
    cases hbk : bk with
    | false =>
      have d0 : ∀ p : Int, drk K p it bk = 0 := fun p => if_neg (fun q => by rw [hbk] at q; cases q.1)
      rw [d0, d0] at eN
      have eN' : ndz K a b it bk = false := by rw [eN]; rfl
      rw [hbk] at eN'
      refine ⟨none, μ, z, w, φ, ?_, by omega, by omega, by omega, by omega, Fr.rf, hF, fun _ _ => rfl, fun _ _ => rfl, hz, fun _ h => h, by rw [eN']; simp, ?_⟩
      · apply mmT_i (Nat.le_refl _) (Nat.le_refl _)
        · rw [if_pos (by decide), if_pos (by decide)]
        · exact Nat.le_refl _
        · exact Nat.le_refl _
      · unfold lS
        rw [eN', if_neg (by decide)]
        exact po_none.pb
    | true =>
      have hlt : it < 3 := by
        apply Int.not_le.mp
        intro q
        have := h3 (by omega)
        rw [hbk] at this
        cases this
      have d1 : ∀ p : Int, drk K p it bk = blz K p it := fun p => if_pos ⟨hbk, hlt⟩
      have r1 := blz_R (it := it) ha hA hi
      have r2 := blz_R (it := it) hb hB hi
      obtain ⟨dd1, dd2⟩ := hd hbk hlt
      rw [d1, d1] at eN
      rw [if_pos (by decide), if_neg (by decide), pw_rc hP hF, Option.bind_some, (pw_b hP hF hi.1 hlt).2, Option.bind_some, pw_rc hQ hF, Option.bind_some, (pw_b hQ hF hi.1 hlt).2, Option.bind_some]
      by_cases e : blz K a it = blz K b it
      · have eN' : ndz K a b it bk = false := by rw [eN]; exact decide_eq_false (fun q => q e)
        rw [hbk] at eN'
        refine ⟨none, μ, z, w, φ, ?_, by omega, by omega, by omega, by omega, Fr.rf, hF, fun _ _ => rfl, fun _ _ => rfl, hz, fun _ h => h, by rw [eN']; simp, ?_⟩
        · apply mmT_i (Nat.le_refl _) (Nat.le_refl _)
          · rw [if_pos (congrArg iz e)]
          · exact Nat.le_refl _
          · exact Nat.le_refl _
        · unfold lS
          rw [eN', if_neg (by decide)]
          exact po_none.pb
      · have eN' : ndz K a b it bk = true := by rw [eN]; exact decide_eq_true e
        obtain ⟨m1, φ', s1, f1, f2, f3, f4, f5, f6, f7⟩ := mk 8 (lS K a b it bk) (fun ψ hψ hj => by
          unfold lS
          rw [eN', hsc, if_pos rfl, if_neg (by decide), if_neg (by decide), d1, d1]
          refine PO.pb (Or.inr ⟨z, (8, a, blz K a it, blz K b it), false, rfl, ?_, LO.of hj rfl, rfl, fun u => by cases u⟩)
          show PcR ψ z 8 (pf K (8, a, blz K a it, blz K b it))
          rw [pf_8]
          exact pc_black hj ⟨hi.1, hlt⟩ (hP.mono hψ) (hQ.mono hψ) ⟨r1.1, dd1⟩ ⟨r2.1, dd2⟩)
        rw [hbk] at eN' f7
        refine ⟨some z, m1, z + 1, w + 5, φ', ?_, by omega, by omega, by omega, by omega, f1, f2, f3, f4, f5, f6, by rw [eN']; simp, f7⟩
        apply mmT_i (Nat.le_refl _) (Nat.le_refl _)
        · rw [if_neg (fun q => e ((iz_eq (iR_l r1) (iR_l r2)).mp q))]
          unfold mnew
          rw [Option.bind_some]
          exact mmT_i (by omega) (by omega) (by rw [Option.bind_some, zi_8, s1, Option.bind_some]) (Nat.le_refl _) (Nat.le_refl _)
        · show z ≤ z + 1
          omega
        · show w ≤ w + 5
          omega
end PSG
