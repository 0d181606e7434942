/-! The class's refusal. -/
def PR (φ : mM) (P : Nat) (K : Int → Int) (p : Int) (el : Int) (n : Nat) (q : Int → Int) : Prop := PR0 φ P (bp K p) el n q ∧ PW φ P (whz (bp K p)) (fun it => blz K p it)
def arL (b oc : Int → Int) : Nat → Int → Bool
  | 0, _ => true
  | n + 1, i => crb b (oc i) && arL b oc n (i + 1)
section CRF
variable {φ μ : mM}
theorem mio_i {a ci c : Nat} {fs : List Value} {ns : List Nat} (h : μ a = some (.inr (ci, fs))) : mio μ (some a) c ns = if ci = c then some 1 else if ns.contains ci then some 0 else none := by
  simp only [mio, h]
theorem mcc_i {a c : Nat} {fs : List Value} (h : μ a = some (.inr (c, fs))) : mcc μ (some a) c = some () := by
  simp [mcc, h]
theorem cs_ris {a : Nat} {kd n : Int} {b oc : Int → Int} (hs : CS φ a kd n b oc) (hF : Fr φ μ) : f_Curves_areRising μ a = some (iz (bI (arL b oc n.toNat 0))) := by
  obtain ⟨lo, ra, f, h1, h2, h3, h4⟩ := hs
  have e2 : mfA μ (some a) [3] 2 = some (some ra) := mfA_i (v := some ra) (hF _ _ h1) rfl rfl
  have el : ml μ (some ra) = some (iz n) := by
    rw [ml_i (hF _ _ h2) (by decide), nI_iz]
    show some (iz (n.toNat : Int)) = _
    rw [Int.toNat_of_nonneg (by omega)]
  have loop : ∀ (j fu : Nat) (i : Int) (u : Bool), j < fu → 0 ≤ i → i + j = n → f_Curves_areRising_4 μ a (fun y1 => f_Curves_areRising_41 μ a y1) fu (iz (bI u)) (iz i) = some (iz (bI (u && arL b oc j i))) := by
    intro j
    induction j with
    | zero =>
      intro fu i u hf h0 hi
      obtain ⟨fu, rfl⟩ : ∃ m, fu = m + 1 := ⟨fu - 1, by omega⟩
      rw [f_Curves_areRising_4, e2, Option.bind_some, el, Option.bind_some, if_pos ((iz_le (iR_s (by omega) (by omega)) (iR_s (by omega) (by omega))).mpr (by omega))]
      unfold f_Curves_areRising_41 arL
      cases u <;> rfl
    | succ j ih =>
      intro fu i u hf h0 hi
      obtain ⟨fu, rfl⟩ : ∃ m, fu = m + 1 := ⟨fu - 1, by omega⟩
      have e1 : iz i + 1 = iz (i + 1) := by rw [zi_1, iz_add]
      rw [f_Curves_areRising_4, e2, Option.bind_some, el, Option.bind_some, if_neg (fun q => by have := (iz_le (iR_s (by omega) (by omega)) (iR_s (by omega) (by omega))).mp q; omega)]
      unfold f_Curves_areRising_33 f_Curves_areRising_34 arL
      rw [e1]
      cases u with
      | false =>
        rw [if_pos (by decide)]
        exact (ih fu (i + 1) false (by omega) (by omega) (by omega)).trans (by simp)
      | true =>
        obtain ⟨ci, c1, c2, c3⟩ := h4 i.toNat (by omega)
        have c2' := c2.mono hF
        obtain ⟨ad, r1, -⟩ := cv_e c2'
        have r2 := cv_ris c2' c3.2.2.1
        rw [Int.toNat_of_nonneg h0] at r2
        rw [if_neg (by decide), Option.bind_some, iz_nat h0, mgA_i (hF _ _ h2) (by decide) (by omega) (by omega), Option.bind_some, c1, r1, Option.bind_some, r2, Option.bind_some]
        change (if iz (bI (crb b (oc i))) = 0 then _ else _) = _
        cases hc : crb b (oc i) with
        | false =>
          rw [if_pos (by decide)]
          exact (ih fu (i + 1) false (by omega) (by omega) (by omega)).trans (by simp)
        | true =>
          rw [if_neg (by decide)]
          exact (ih fu (i + 1) true (by omega) (by omega) (by omega)).trans (by simp)
  unfold f_Curves_areRising
  rw [zi_0]
  exact (loop n.toNat 4096 0 true (by omega) (by omega) (by omega)).trans (by simp)
theorem mx_sing {a : Nat} {kd d : Int} {f : Int → Int} (h : MX φ a kd f d) (hF : Fr φ μ) (hd : jR d) : f_Matrix_isSingular μ a = some (iz (bI (decide (-16777216 < d ∧ d < 16777216)))) := by
  obtain ⟨fa, e1, e2, e3⟩ := mx_e h hF
  unfold f_Matrix_isSingular f_Matrix_isSingular_26 f_Matrix_isSingular_27
  rw [e2, Option.bind_some, Option.bind_some, zj_m16777216, zj_16777216]
  by_cases d1 : d ≤ -16777216
  · rw [if_pos ((jz_le hd (jR_s (by omega) (by omega))).mpr d1), decide_eq_false (by omega)]
    rfl
  · rw [if_neg (fun q => d1 ((jz_le hd (jR_s (by omega) (by omega))).mp q))]
    by_cases d2 : 16777216 ≤ d
    · rw [if_pos ((jz_le (jR_s (by omega) (by omega)) hd).mpr d2), decide_eq_false (by omega)]
      rfl
    · rw [if_neg (fun q => d2 ((jz_le (jR_s (by omega) (by omega)) hd).mp q)), decide_eq_true (by omega)]
      rfl
variable {P Q : Nat} {K : Int → Int}
theorem pw_zero {b bl : Int → Int} (h : PW φ P (whz b) bl) (hF : Fr φ μ) (hb : WB b) : f_Profile_whiteHasZero μ P = some (iz (bI (wz0 b))) := by
  obtain ⟨wa, e1, e2⟩ := pw_w h hF
  have c : ∀ x : Int, lvl x → (iz x = (0 : Int32) ↔ x = 0) := fun x hx => by
    rw [zi_0, iz_eq (iR_l hx) (iR_s (by omega) (by omega))]
  have w0 := whz_R hb (i := 0) (by omega) (by omega)
  have w1 := whz_R hb (i := 1) (by omega) (by omega)
  have w2 := whz_R hb (i := 2) (by omega) (by omega)
  unfold f_Profile_whiteHasZero f_Profile_whiteHasZero_27 f_Profile_whiteHasZero_32 wz0
  rw [e1, Option.bind_some, zi_1, zi_2, show mgI μ (some wa) (0 : Int32) = some (iz (whz b 0)) from e2 0 (by omega) (by omega), Option.bind_some, Option.bind_some, e2 1 (by omega) (by omega), Option.bind_some, Option.bind_some, e2 2 (by omega) (by omega), Option.bind_some]
  by_cases q0 : whz b 0 = 0
  · rw [if_pos ((c _ w0).mpr q0), decide_eq_true (Or.inl q0)]
    rfl
  · rw [if_neg (fun q => q0 ((c _ w0).mp q))]
    by_cases q1 : whz b 1 = 0
    · rw [if_pos ((c _ w1).mpr q1), decide_eq_true (Or.inr (Or.inl q1))]
      rfl
    · rw [if_neg (fun q => q1 ((c _ w1).mp q))]
      by_cases q2 : whz b 2 = 0
      · rw [if_pos ((c _ w2).mpr q2), decide_eq_true (Or.inr (Or.inr q2))]
        rfl
      · rw [if_neg (fun q => q2 ((c _ w2).mp q)), decide_eq_false (fun q => by omega)]
        rfl
theorem pw_rc {wh bl : Int → Int} (h : PW φ P wh bl) (hF : Fr φ μ) : mrc μ (some P) 9 = some P := by
  obtain ⟨fs, wa, ba, f, g, h1, -⟩ := h
  exact mrc_i (hF _ _ h1)
theorem cl_needs {a b it : Int} {ba bb : Int → Int} (hP : PW φ P (whz (bp K a)) ba) (hQ : PW φ Q (whz (bp K b)) bb) (hF : Fr φ μ) (hA : WB (bp K a)) (hB : WB (bp K b)) (hi : 0 ≤ it ∧ it ≤ 3) : f_CL_needsScale μ (some P) (some Q) (iz it) = some (iz (bI (scz K a b it))) := by
  obtain ⟨wa, e1, e2⟩ := pw_w hP hF
  obtain ⟨wb, g1, g2⟩ := pw_w hQ hF
  unfold f_CL_needsScale f_CL_needsScale_17 f_CL_needsScale_18 scz
  by_cases e3 : it = 3
  · have eq : ∀ i : Int, 0 ≤ i → i < 3 → (iz (whz (bp K a) i) = iz (whz (bp K b) i) ↔ whz (bp K a) i = whz (bp K b) i) := fun i h0 h1 => iz_eq (iR_l (whz_R hA h0 h1)) (iR_l (whz_R hB h0 h1))
    have hw : f_Profile_hasWhiteOf μ P (some Q) = some (iz (bI (!owz (bp K a) (bp K b)))) := by
      unfold f_Profile_hasWhiteOf f_Profile_hasWhiteOf_49 f_Profile_hasWhiteOf_50 owz
      rw [e1, Option.bind_some, g1, zi_1, zi_2, show mgI μ (some wa) (0 : Int32) = some (iz (whz (bp K a) 0)) from e2 0 (by omega) (by omega), Option.bind_some, Option.bind_some, show mgI μ (some wb) (0 : Int32) = some (iz (whz (bp K b) 0)) from g2 0 (by omega) (by omega), Option.bind_some, Option.bind_some, e2 1 (by omega) (by omega), Option.bind_some, Option.bind_some, g2 1 (by omega) (by omega), Option.bind_some, Option.bind_some, e2 2 (by omega) (by omega), Option.bind_some, Option.bind_some, g2 2 (by omega) (by omega), Option.bind_some]
      by_cases q0 : whz (bp K a) 0 = whz (bp K b) 0
      · rw [if_pos ((eq 0 (by omega) (by omega)).mpr q0)]
        by_cases q1 : whz (bp K a) 1 = whz (bp K b) 1
        · rw [if_pos ((eq 1 (by omega) (by omega)).mpr q1)]
          by_cases q2 : whz (bp K a) 2 = whz (bp K b) 2
          · rw [if_pos ((eq 2 (by omega) (by omega)).mpr q2), decide_eq_false (fun q => q ⟨q0, q1, q2⟩)]
            rfl
          · rw [if_neg (fun q => q2 ((eq 2 (by omega) (by omega)).mp q)), decide_eq_true (show ¬ (whz (bp K a) 0 = whz (bp K b) 0 ∧ whz (bp K a) 1 = whz (bp K b) 1 ∧ whz (bp K a) 2 = whz (bp K b) 2) from fun q => q2 q.2.2)]
            rfl
        · rw [if_neg (fun q => q1 ((eq 1 (by omega) (by omega)).mp q)), decide_eq_true (show ¬ (whz (bp K a) 0 = whz (bp K b) 0 ∧ whz (bp K a) 1 = whz (bp K b) 1 ∧ whz (bp K a) 2 = whz (bp K b) 2) from fun q => q1 q.2.1)]
          rfl
      · rw [if_neg (fun q => q0 ((eq 0 (by omega) (by omega)).mp q)), decide_eq_true (show ¬ (whz (bp K a) 0 = whz (bp K b) 0 ∧ whz (bp K a) 1 = whz (bp K b) 1 ∧ whz (bp K a) 2 = whz (bp K b) 2) from fun q => q0 q.1)]
        rfl
    rw [zi_3, if_pos (congrArg iz e3), pw_rc hP hF, Option.bind_some, hw, Option.bind_some, decide_eq_true e3, Bool.true_and]
    cases owz (bp K a) (bp K b)
    · rfl
    · rfl
  · rw [zi_3, if_neg (fun q => e3 ((iz_eq (iR_s (by omega) (by omega)) (iR_s (by omega) (by omega))).mp q)), decide_eq_false e3, Bool.false_and]
    rfl
theorem cl_98 {a b it : Int} (ha : 0 ≤ a ∧ a < 6) (hb : 0 ≤ b ∧ b < 6) (hP : PW φ P (whz (bp K a)) (fun it => blz K a it)) (hQ : PW φ Q (whz (bp K b)) (fun it => blz K b it)) (hF : Fr φ μ) (hA : WB (bp K a)) (hB : WB (bp K b)) (hi : 0 ≤ it ∧ it ≤ 3) {bk : Bool} (hk : it = 3 → bk = false) : f_CL_refusal_98 μ (some P) (some Q) (iz it) (iz (bI bk)) = some (iz (rfE K a b it bk)) := by
  unfold f_CL_refusal_98
  rw [cl_needs hP hQ hF hA hB hi, Option.bind_some]
  have h117 : f_CL_refusal_117 μ (some P) (some Q) (iz it) (iz (bI bk)) = some (iz (if bk then (if 32768 ≤ blz K a it ∨ 32768 ≤ blz K b it then -7 else 0) else 0)) := by
    unfold f_CL_refusal_117 f_CL_refusal_141 f_CL_refusal_144
    cases bk with
    | false =>
      rw [if_pos (by decide), if_neg (by decide), zi_0]
    | true =>
      have h3 : it < 3 := by
        apply Int.not_le.mp
        intro q
        have := hk (by omega)
        cases this
      have r1 := blz_R (it := it) ha hA hi
      have r2 := blz_R (it := it) hb hB hi
      rw [if_neg (by decide), if_pos rfl, pw_rc hP hF, Option.bind_some, (pw_b hP hF hi.1 h3).2, Option.bind_some, pw_rc hQ hF, Option.bind_some, (pw_b hQ hF hi.1 h3).2, Option.bind_some, zi_32768]
      by_cases q1 : 32768 ≤ blz K a it
      · rw [if_pos ((iz_le (iR_s (by omega) (by omega)) (iR_l r1)).mpr q1), if_pos (Or.inl q1), zi_m7]
      · rw [if_neg (fun q => q1 ((iz_le (iR_s (by omega) (by omega)) (iR_l r1)).mp q))]
        by_cases q2 : blz K b it < 32768
        · rw [if_pos ((iz_lt (iR_l r2) (iR_s (by omega) (by omega))).mpr q2), if_neg (by omega), zi_0]
        · rw [if_neg (fun q => q2 ((iz_lt (iR_l r2) (iR_s (by omega) (by omega))).mp q)), if_pos (by omega), zi_m7]
  unfold rfE scz
  by_cases e3 : it = 3
  · rw [hk e3, if_neg (by decide)] at h117
    rw [hk e3, decide_eq_true e3, Bool.true_and, if_pos e3]
    cases owz (bp K a) (bp K b) with
    | false =>
      rw [if_pos (by decide), Bool.false_and, if_neg (by decide)]
      exact h117
    | true =>
      rw [if_neg (by decide), Bool.true_and, pw_rc hQ hF, Option.bind_some, pw_zero hQ hF hB, Option.bind_some]
      cases wz0 (bp K b) with
      | false =>
        rw [if_pos (by decide), if_neg (by decide)]
        exact h117
      | true =>
        rw [if_neg (by decide), if_pos rfl, zi_m7]
  · rw [decide_eq_false e3, Bool.false_and, if_pos (by decide), if_neg e3]
    exact h117
theorem cl_refusal {a b it el el' : Int} {n n' : Nat} {q q' : Int → Int} (ha : 0 ≤ a ∧ a < 6) (hb : 0 ≤ b ∧ b < 6) (hP : PR φ P K a el n q) (hQ : PR φ Q K b el' n' q') (hF : Fr φ μ) (hA : WB (bp K a)) (hB : WB (bp K b)) (hi : iR it) {bk : Bool} (hk : it = 3 → bk = false) : f_CL_refusal μ (some P) (some Q) (iz it) (iz (bI bk)) = some (iz (rfz K a b it bk)) := by
  unfold f_CL_refusal f_CL_refusal_9 rfz
  by_cases e0 : it < 0
  · rw [zi_0, if_pos ((iz_lt hi (iR_s (by omega) (by omega))).mpr e0), if_pos (Or.inl e0), zi_m2]
  · by_cases e3 : it ≤ 3
    · have hi' : 0 ≤ it ∧ it ≤ 3 := ⟨by omega, e3⟩
      obtain ⟨rc, pl, p0, pl1, p1, p2', p3, p4, p5, p6⟩ := pr_head hQ.1 hF
      obtain ⟨G1, G2⟩ := pr_grid hQ.1 hF (f := 9) (Or.inr rfl) hi' (by have := hB.b6; omega)
      obtain ⟨cf, ef, bb, cb, f5, f6, f7, f8, h7, h8, h9, h10⟩ := pr_fields hQ.1 hF
      have r2 := hB.rg 2
      have h98 := cl_98 ha hb hP.2 hQ.2 hF hA hB hi' hk
      have es : f_Profile_isSourceAlone μ Q = some (iz (bI (decide (bp K b 2 = 1)))) := by
        unfold f_Profile_isSourceAlone f_Profile_isSourceAlone_15
        rw [p0, Option.bind_some, zi_2, p1 2 (by omega) (by omega), Option.bind_some, p4, zi_1]
        by_cases e : bp K b 2 = 1
        · rw [if_pos (congrArg iz e), decide_eq_true e]
          rfl
        · rw [if_neg (fun q => e ((iz_eq (iR_s (by omega) (by omega)) (iR_s (by omega) (by omega))).mp q)), decide_eq_false e]
          rfl
      have rcv : ∀ {ac : Nat}, cb = some ac → CS φ ac 11 (nch (bp K b)) (bp K b) (ocz (bp K b)) → f_Profile_gridFor μ Q (iz 9) (iz it) = some none → f_CL_refusal_64 μ (some P) (some Q) (iz it) (iz (bI bk)) = (if arL (bp K b) (ocz (bp K b)) (nch (bp K b)).toNat 0 then some (iz (rfE K a b it bk)) else some (-6)) := by
        intro ac c1 c2 c3
        have c4 := cs_ris c2 hF
        obtain ⟨lo, ra, f, d1, -⟩ := c2
        unfold f_CL_refusal_64 f_Profile_backPiece f_Profile_backPiece_37
        rw [rc, Option.bind_some, rc, Option.bind_some, zi_9, c3, Option.bind_some, if_pos rfl, if_neg (by decide), f8, Option.bind_some, Option.bind_some, c1, mio_i (hF _ _ d1), if_pos rfl, Option.bind_some, if_neg (by decide), mcc_i (hF _ _ d1), Option.bind_some, mrc_i (hF _ _ d1), Option.bind_some, c4, Option.bind_some]
        cases arL (bp K b) (ocz (bp K b)) (nch (bp K b)).toNat 0 with
        | false => rw [if_pos (by decide), if_neg (by decide)]
        | true =>
          rw [if_neg (by decide), if_pos rfl]
          exact h98
      rw [zi_0, if_neg (fun q => e0 ((iz_lt hi (iR_s (by omega) (by omega))).mp q)), zi_3, if_pos ((iz_le hi (iR_s (by omega) (by omega))).mpr e3), if_neg (by omega), rc, Option.bind_some, es, Option.bind_some]
      by_cases e2 : bp K b 2 = 1
      · rw [decide_eq_true e2, if_neg (by decide), if_pos e2, iz_neg]
      · rw [decide_eq_false e2, if_pos (by decide), if_neg e2, Option.bind_some]
        by_cases e1 : bp K b 3 = 1
        · obtain ⟨-, ⟨a4, e4, e5⟩⟩ := h9 e1
          obtain ⟨-, ⟨ac, c1, c2, c3⟩⟩ := h7 (Or.inl e1)
          have r64 := rcv c1 c2 (G1 (Or.inl e1))
          have ar : arL (bp K b) (ocz (bp K b)) (nch (bp K b)).toNat 0 = ris (bp K b) 1 := by
            have : nch (bp K b) = 1 := if_pos e1
            rw [this]
            show (crb (bp K b) (ocz (bp K b) 0) && true) = _
            rw [Bool.and_true]
            unfold ocz ris
            rw [if_pos e1]
          rw [ar] at r64
          rw [if_pos e1]
          unfold f_Profile_backPiece f_Profile_backPiece_37
          rw [rc, Option.bind_some, zi_9, G1 (Or.inl e1), Option.bind_some, if_pos rfl, if_pos (by decide), f7, Option.bind_some, Option.bind_some, e4, if_neg (by simp), mio_i (hF _ _ e5), if_neg (by decide), if_pos (by decide), Option.bind_some, if_pos (by decide), r64]
          cases ris (bp K b) 1 with
          | false => rw [if_neg (by decide), if_neg (by decide), zi_m6]
          | true => rw [if_pos rfl, if_pos rfl]
        · rw [if_neg e1]
          have gR := grz_R (b := bp K b) (f := 9) (Or.inr rfl) hi'
          by_cases eg : grz (bp K b) 9 it = 0
          · have eg' : ¬ 0 < grz (bp K b) 9 it := by omega
            rw [if_pos eg]
            unfold f_Profile_backPiece f_Profile_backPiece_37
            rw [rc, Option.bind_some, zi_9, G1 (Or.inr eg'), Option.bind_some, if_pos rfl, if_pos (by decide), f7, Option.bind_some, Option.bind_some]
            by_cases hs : shp (bp K b)
            · obtain ⟨-, ⟨a4, e4, e5, e6⟩⟩ := h10 e1 hs
              obtain ⟨-, ⟨ac, c1, c2, c3⟩⟩ := h7 (Or.inr hs)
              have r64 := rcv c1 c2 (G1 (Or.inr eg'))
              have ar : arL (bp K b) (ocz (bp K b)) (nch (bp K b)).toNat 0 = (ris (bp K b) 2 && ris (bp K b) 3 && ris (bp K b) 4) := by
                have : nch (bp K b) = 3 := if_neg e1
                rw [this]
                show (crb (bp K b) (ocz (bp K b) 0) && (crb (bp K b) (ocz (bp K b) 1) && (crb (bp K b) (ocz (bp K b) 2) && true))) = _
                rw [Bool.and_true, ← Bool.and_assoc]
                unfold ocz ris
                rw [if_neg e1, if_neg e1, if_neg e1]
                rfl
              rw [ar] at r64
              have dR := detz_R (m := mxz (bp K b) (da (bp K b) 5)) (mx_b hB _)
              have sg := mx_sing e5 hF (jR_s (by omega) (by omega))
              obtain ⟨lo, fa, g, d1, -⟩ := e5
              rw [if_neg (show ¬ ¬ shp (bp K b) from fun q => q hs), e4, if_neg (by simp), mio_i (hF _ _ d1), if_pos rfl, Option.bind_some, if_neg (by decide), mcc_i (hF _ _ d1), Option.bind_some, mrc_i (hF _ _ d1), Option.bind_some, sg, Option.bind_some, r64]
              by_cases ed : -16777216 < detz (mxz (bp K b) (da (bp K b) 5)) ∧ detz (mxz (bp K b) (da (bp K b) 5)) < 16777216
              · rw [decide_eq_true ed, if_neg (by decide), if_pos ed, zi_m5]
              · rw [decide_eq_false ed, if_pos (by decide), if_neg ed]
                cases (ris (bp K b) 2 && ris (bp K b) 3 && ris (bp K b) 4) with
                | false => rw [if_neg (by decide), if_neg (by decide), zi_m6]
                | true => rw [if_pos rfl, if_pos rfl]
            · obtain ⟨-, -, -, hbb⟩ := h8 (fun q => by rcases q with q | q; exact e1 q; exact hs q)
              rw [hbb, if_pos rfl, if_pos hs, zi_m4]
          · obtain ⟨gi, ra, g1, g2⟩ := G2 e1 (by omega)
            obtain ⟨pa, n, st, f, d1, -⟩ := g2
            rw [if_neg eg]
            unfold f_CL_refusal_64 f_Profile_backPiece f_Profile_backPiece_21
            rw [rc, Option.bind_some, Option.bind_some, rc, Option.bind_some, zi_9, g1, Option.bind_some, if_neg (by simp), if_pos (by decide), Option.bind_some, if_neg (by simp), mio_i (hF _ _ d1), if_neg (by decide), if_pos (by decide), Option.bind_some, if_pos (by decide), Option.bind_some, if_neg (by simp), if_neg (by decide), Option.bind_some]
            exact h98
    · rw [zi_0, if_neg (fun q => e0 ((iz_lt hi (iR_s (by omega) (by omega))).mp q)), zi_3, if_neg (fun q => e3 ((iz_le hi (iR_s (by omega) (by omega))).mp q)), if_pos (by omega), zi_m2]
end CRF
