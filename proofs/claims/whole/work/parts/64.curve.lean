/-! curve. -/
def crz (b : Int → Int) (s x : Int) (iv : Bool) : Int := if 0 ≤ en b s then (if iv then (if crb b (da b s) then cib b (da b s) x else -1) else cvb b (da b s) x) else -1
section CRV
variable {φ μ : mM} {X z : Nat} {K : Int → Int} {mc cc pr : Int32} {np : Nat} {Pa : Nat → Nat}
theorem pr_curve {P n : Nat} {b q : Int → Int} {el : Int} (h : PR0 φ P b el n q) (hF : Fr φ μ) {s : Int} (s1 : 1 ≤ s) (s2 : s ≤ 4) : ∃ cu v, mfA μ (some P) [9] 3 = some (some cu) ∧ mgA μ (some cu) (iz s) = some v ∧ (en b s < 0 → v = none) ∧ (0 ≤ en b s → ∃ ci, v = some ci ∧ CV μ ci (cg b (da b s)) (cn b (da b s)) (cw b (da b s))) := by
  obtain ⟨pl, oa, cu, gr', wa, ba, cf, ef, bb, cb, f, fc, fg, kc, kg, h1, h2, ⟨h3, hk⟩, h4, h5, -⟩ := h
  have A := h5 s.toNat (by omega) (by omega)
  rw [Int.toNat_of_nonneg (by omega)] at A
  refine ⟨cu, fc s.toNat, mfA_i (v := some cu) (hF _ _ h1) rfl rfl, ?_, A.1, fun e => ?_⟩
  · rw [iz_nat (by omega), mgA_i (hF _ _ h3) hk (by omega) (by decide)]
  · obtain ⟨ci, c1, c2⟩ := A.2 e
    exact ⟨ci, c1, c2.mono hF⟩
theorem cl_curve (hx : μ X = some (.inr (10, xF X (nI np) mc cc pr))) (h3 : KP μ X np Pa) (hn : np ≤ 6) (hF : Fr φ μ) (hP : ∀ p, p < np → ∃ el n q, PR φ (Pa p) K p el n q) (hW : ∀ p : Nat, p < np → WB (bp K p)) {p s x : Int} (ip : iR p) (is : iR s) (ix : iR x) (iv : Bool) : f_CL_curve μ X (iz p) (iz s) (iz x) (iz (bI iv)) = some (iz (if (0 ≤ p ∧ p < np) ∧ (1 ≤ s ∧ s ≤ 4) ∧ lvb x = true then crz (bp K p) s x iv else -1)) := by
  unfold f_CL_curve f_CL_curve_29 f_CL_curve_77
  rw [zi_m1, cl_profileAt hx h3 hn ip, Option.bind_some]
  by_cases e0 : 0 ≤ p ∧ p < np
  · rw [if_pos e0, if_neg (by simp)]
    by_cases e1 : s < 1
    · rw [zi_1, if_pos ((iz_lt is (iR_s (by omega) (by omega))).mpr e1), if_neg (by omega)]
    · rw [zi_1, if_neg (fun q => e1 ((iz_lt is (iR_s (by omega) (by omega))).mp q))]
      by_cases e2 : 4 < s
      · rw [zi_4, if_pos ((iz_lt (iR_s (by omega) (by omega)) is).mpr e2), if_neg (by omega)]
      · rw [zi_4, if_neg (fun q => e2 ((iz_lt (iR_s (by omega) (by omega)) is).mp q)), cl_level ix, Option.bind_some]
        cases hl : lvb x with
        | false =>
          rw [if_pos (by decide), if_neg (fun q => by cases q.2.2)]
        | true =>
          have hlx' : 0 ≤ x ∧ x ≤ 65535 := of_decide_eq_true hl
          have hlx : lvl x := hlx'
          obtain ⟨el, n, q, hpr⟩ := hP p.toNat (by omega)
          have wb := hW p.toNat (by omega)
          rw [Int.toNat_of_nonneg e0.1] at hpr wb
          obtain ⟨cu, v, c1, c2, c3, c4⟩ := pr_curve hpr.1 hF (s := s) (by omega) (by omega)
          rw [if_neg (by decide), c1, Option.bind_some, c2, Option.bind_some, if_pos (show (0 ≤ p ∧ p < np) ∧ (1 ≤ s ∧ s ≤ 4) ∧ true = true from ⟨e0, ⟨by omega, by omega⟩, rfl⟩)]
          unfold crz
          by_cases ee : 0 ≤ en (bp K p) s
          · obtain ⟨ci, d1, d2⟩ := c4 ee
            have hE := wb.cur s (by omega) (by omega) ee
            obtain ⟨ad, r1, -⟩ := cv_e d2
            rw [d1, if_neg (by simp), if_pos ee]
            cases iv with
            | false =>
              rw [if_pos (by decide), if_neg (by decide), r1, Option.bind_some, cv_val d2 hE.2.2.1 hlx.1 hlx.2, Option.bind_some]
              rfl
            | true =>
              rw [if_neg (by decide), if_pos rfl, r1, Option.bind_some, cv_ris d2 hE.2.2.1, Option.bind_some]
              change (if iz (bI (crb (bp K p) (da (bp K p) s))) = 0 then _ else _) = _
              cases hr : crb (bp K p) (da (bp K p) s) with
              | false => rw [if_pos (by decide), if_neg (by decide)]
              | true =>
                rw [if_neg (by decide), if_pos rfl, Option.bind_some, cv_inv d2 hE.2.2.1 (iR_l hlx), Option.bind_some]
                rfl
          · rw [c3 (by omega), if_pos rfl, if_neg ee]
  · rw [if_neg e0, if_pos rfl, if_neg (fun q => e0 q.1)]
end CRV
