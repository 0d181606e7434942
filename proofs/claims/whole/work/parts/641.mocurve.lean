/-! curve of the reference. -/
section MCV
variable {μ : mM} {M : Nat} {A : Nat → Nat → Int32} {S : Nat → Int32} {L : Nat → Int64}
theorem rb_KR (h : RB μ M A S L) (hk : KA A) : KR μ M (kp A) := by
  obtain ⟨A2, v, l, b2, hR, hl⟩ := h
  rw [← sB_kp b2]
  exact rf_KR hR (sB_KA b2 hk)
theorem rb_curve {np : Nat} (h : RB μ M A S L) (hk : KA A) (hS3 : S 3 = nI np) (hn : np ≤ 6) (hW : ∀ p : Nat, p < np → WB (bp (kp A) p)) {p s x : Int} (ip : iR p) (is : iR s) (ix : iR x) (iv : Bool) : f_Mo_curve μ M (iz p) (iz s) (iz x) (iz (bI iv)) = some (iz (if (0 ≤ p ∧ p < np) ∧ (1 ≤ s ∧ s ≤ 4) ∧ lvb x = true then crz (bp (kp A) p) s x iv else -1)) := by
  have kr := rb_KR h hk
  unfold f_Mo_curve f_Mo_curve_28 f_Mo_curve_53 f_Mo_curve_55 f_Mo_curve_79
  rw [zi_m1, rb_there h hS3 hn ip, Option.bind_some]
  by_cases e0 : 0 ≤ p ∧ p < np
  · rw [decide_eq_true e0, if_neg (by decide)]
    by_cases e1 : s < 1
    · rw [zi_1, if_pos ((iz_lt is (iR_s (by omega) (by omega))).mpr e1), if_neg (by omega)]
    · rw [zi_1, if_neg (fun q => e1 ((iz_lt is (iR_s (by omega) (by omega))).mp q))]
      by_cases e2 : 4 < s
      · rw [zi_4, if_pos ((iz_lt (iR_s (by omega) (by omega)) is).mpr e2), if_neg (by omega)]
      · rw [zi_4, if_neg (fun q => e2 ((iz_lt (iR_s (by omega) (by omega)) is).mp q)), zi_0]
        by_cases x0 : x < 0
        · rw [if_pos ((iz_lt ix (iR_s (by omega) (by omega))).mpr x0), if_neg (fun q => by have : 0 ≤ x ∧ x ≤ 65535 := of_decide_eq_true q.2.2; omega)]
        · rw [if_neg (fun q => x0 ((iz_lt ix (iR_s (by omega) (by omega))).mp q)), zi_65535]
          by_cases x1 : x ≤ 65535
          · have wb := hW p.toNat (by omega)
            rw [Int.toNat_of_nonneg e0.1] at wb
            have h60 : bp (kp A) p 6 ≤ 60 := by have := wb.b6; omega
            have hp6 : p < 6 := by omega
            have en2 := en_256 kr (p := p) (s := s) h60
            have hlx : lvl x := ⟨by omega, x1⟩
            have hlv : lvb x = true := decide_eq_true ⟨by omega, x1⟩
            rw [if_pos ((iz_le ix (iR_s (by omega) (by omega))).mpr x1), kr.1, Option.bind_some, km_entry kr e0.1 hp6 is h60, Option.bind_some, Option.bind_some, Option.bind_some, Option.bind_some, if_pos (show (0 ≤ p ∧ p < np) ∧ (1 ≤ s ∧ s ≤ 4) ∧ lvb x = true from ⟨e0, ⟨by omega, by omega⟩, hlv⟩)]
            unfold crz
            by_cases ee : 0 ≤ en (bp (kp A) p) s
            · have hE := wb.cur s (by omega) (by omega) ee
              rw [if_neg (fun q => by have := (iz_lt (iR_s (by omega) (by omega)) (iR_s (by omega) (by omega))).mp q; omega), if_pos ee]
              cases iv with
              | false =>
                rw [if_pos (by decide), if_pos (by decide), if_neg (by decide), iz_j ix, km_val kr e0.1 hp6 is h60 hE hlx.1 hlx.2, Option.bind_some, jz_i]
              | true =>
                rw [if_neg (by decide), if_pos rfl, km_ris kr e0.1 hp6 is h60 hE, Option.bind_some]
                cases hr : crb (bp (kp A) p) (da (bp (kp A) p) s) with
                | false => rw [if_pos (by decide), if_neg (by decide)]
                | true =>
                  rw [if_neg (by decide), if_neg (by decide), if_pos rfl, iz_j ix, km_inv kr e0.1 hp6 is h60 hE (jR_s (by omega) (by omega)), Option.bind_some, jz_i]
            · rw [if_pos ((iz_lt (iR_s (by omega) (by omega)) (iR_s (by omega) (by omega))).mpr (by omega)), if_neg ee]
          · rw [if_neg (fun q => x1 ((iz_le ix (iR_s (by omega) (by omega))).mp q)), if_neg (fun q => by have : 0 ≤ x ∧ x ≤ 65535 := of_decide_eq_true q.2.2; omega)]
  · rw [decide_eq_false e0, if_pos (by decide), if_neg (fun q => e0 q.1)]
end MCV
