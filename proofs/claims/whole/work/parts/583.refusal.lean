/-! The reference's refusal. -/
def trn (b : Int → Int) (it : Int) : Prop := b 3 ≠ 1 ∧ grz b 9 it = 0
def smd (b : Int → Int) : Prop := -16777216 < detz (mxz b (da b 5)) ∧ detz (mxz b (da b 5)) < 16777216
def ris (b : Int → Int) (s : Int) : Bool := crb b (da b s)
def wz0 (b : Int → Int) : Bool := decide (whz b 0 = 0 ∨ whz b 1 = 0 ∨ whz b 2 = 0)
def rfE (K : Int → Int) (a b it : Int) (bk : Bool) : Int := if it = 3 then (if owz (bp K a) (bp K b) && wz0 (bp K b) then -7 else 0) else if bk then (if 32768 ≤ blz K a it ∨ 32768 ≤ blz K b it then -7 else 0) else 0
def rfz (K : Int → Int) (a b it : Int) (bk : Bool) : Int :=
  if it < 0 ∨ 3 < it then -2
  else if bp K b 2 = 1 then -3
  else if bp K b 3 = 1 then (if ris (bp K b) 1 then rfE K a b it bk else -6)
  else if grz (bp K b) 9 it = 0 then (if ¬ shp (bp K b) then -4 else if -16777216 < detz (mxz (bp K b) (da (bp K b) 5)) ∧ detz (mxz (bp K b) (da (bp K b) 5)) < 16777216 then -5 else if ris (bp K b) 2 && ris (bp K b) 3 && ris (bp K b) 4 then rfE K a b it bk else -6)
  else rfE K a b it bk
section RFU
variable {μ : mM} {M : Nat} {A : Nat → Nat → Int32} {S : Nat → Int32} {L : Nat → Int64} {v : Int → Int} {l : List Pz}
theorem rf_154 (h : RF μ M A S L v l) (hk : KA A) (hl : l.length ≤ 34) {a b it : Int} (ha : 0 ≤ a ∧ a < 6) (hA : WB (bp (kp A) a)) (hb : 0 ≤ b ∧ b < 6) (hB : WB (bp (kp A) b)) (hi : 0 ≤ it ∧ it ≤ 3) (bk : Bool) : ∃ μ' v', f_Mo_refusal_154 M μ (iz a) (iz b) (iz it) (iz (bI bk)) = some (iz (rfE (kp A) a b it bk), μ') ∧ RF μ' M A S L v' l ∧ Out M μ μ' := by
  have kr := rf_KR h hk
  have rc := rf_rc h
  unfold f_Mo_refusal_154 f_Mo_refusal_195 f_Mo_refusal_200 f_Mo_refusal_201 f_Mo_refusal_243 f_Mo_refusal_249 rfE
  by_cases e3 : it = 3
  · refine ⟨μ, v, ?_, h, Out.rf⟩
    have w0 := whz_R hB (i := 0) (by omega) (by omega)
    have w1 := whz_R hB (i := 1) (by omega) (by omega)
    have w2 := whz_R hB (i := 2) (by omega) (by omega)
    have c : ∀ x : Int, lvl x → (iz x = (0 : Int32) ↔ x = 0) := fun x hx => by
      rw [zi_0, iz_eq (iR_l hx) (iR_s (by omega) (by omega))]
    rw [zi_3, if_pos (congrArg iz e3), if_pos e3, rc, Option.bind_some, km_other kr ha.1 ha.2 hA hb.1 hb.2 hB, Option.bind_some, Option.bind_some, zi_1, zi_2, Option.bind_some, Option.bind_some]
    rw [show f_Mo_white μ M (iz b) (0 : Int32) = some (iz (whz (bp (kp A) b) 0)) from km_white kr hb.1 hb.2 hB (i := 0) (by omega) (by omega), km_white kr hb.1 hb.2 hB (i := 1) (by omega) (by omega), km_white kr hb.1 hb.2 hB (i := 2) (by omega) (by omega), Option.bind_some, Option.bind_some, Option.bind_some]
    cases ho : owz (bp (kp A) a) (bp (kp A) b) with
    | false =>
      rw [if_pos (by decide), Bool.false_and]
      rfl
    | true =>
      rw [if_neg (by decide), Bool.true_and]
      unfold wz0
      by_cases q0 : whz (bp (kp A) b) 0 = 0
      · rw [if_pos ((c _ w0).mpr q0), decide_eq_true (Or.inl q0), if_pos rfl]
        rfl
      · rw [if_neg (fun q => q0 ((c _ w0).mp q))]
        by_cases q1 : whz (bp (kp A) b) 1 = 0
        · rw [if_pos ((c _ w1).mpr q1), decide_eq_true (Or.inr (Or.inl q1)), if_pos rfl]
          rfl
        · rw [if_neg (fun q => q1 ((c _ w1).mp q))]
          by_cases q2 : whz (bp (kp A) b) 2 = 0
          · rw [if_pos ((c _ w2).mpr q2), decide_eq_true (Or.inr (Or.inr q2)), if_pos rfl]
            rfl
          · rw [if_neg (fun q => q2 ((c _ w2).mp q)), decide_eq_false (fun q => by omega), if_neg (by decide)]
            rfl
  · rw [zi_3, if_neg (fun q => e3 ((iz_eq (iR_s (by omega) (by omega)) (iR_s (by omega) (by omega))).mp q)), if_neg e3]
    cases bk with
    | false =>
      refine ⟨μ, v, ?_, h, Out.rf⟩
      rw [if_pos (by decide), if_neg (by decide)]
      rfl
    | true =>
      obtain ⟨m1, v1, s1, k1, o1⟩ := rf_black h hk hl ha.1 ha.2 hA hi
      obtain ⟨m2, v2, s2, k2, o2⟩ := rf_black k1 hk hl hb.1 hb.2 hB hi
      refine ⟨m2, v2, ?_, k2, o1.tr o2⟩
      have b1 := blz_R (it := it) ha hA hi
      have b2 := blz_R (it := it) hb hB hi
      have J1 : jR (blz (kp A) a it) := jR_s (by have := b1.1; omega) (by have := b1.2; omega)
      have J2 : jR (blz (kp A) b it) := jR_s (by have := b2.1; omega) (by have := b2.2; omega)
      have J3 : jR 32768 := jR_s (by omega) (by omega)
      rw [if_neg (by decide), if_pos rfl, rc, Option.bind_some, s1, Option.bind_some]
      change ((mrc m1 (some M) 11).bind fun a => f_Mo_blackLevel a m1 (iz b) (iz it)).bind _ = _
      rw [rf_rc k1, Option.bind_some, s2, Option.bind_some, zj_32768]
      change (if jz 32768 ≤ jz (blz (kp A) a it) then some ((-7 : Int32), m2) else if jz (blz (kp A) b it) < jz 32768 then some ((0 : Int32), m2) else some ((-7 : Int32), m2)) = _
      by_cases q1 : 32768 ≤ blz (kp A) a it
      · rw [if_pos ((jz_le J3 J1).mpr q1), if_pos (Or.inl q1), zi_m7]
      · rw [if_neg (fun q => q1 ((jz_le J3 J1).mp q))]
        by_cases q2 : blz (kp A) b it < 32768
        · rw [if_pos ((jz_lt J2 J3).mpr q2), if_neg (by omega), zi_0]
        · rw [if_neg (fun q => q2 ((jz_lt J2 J3).mp q)), if_pos (by omega), zi_m7]
theorem rf_refusal (h : RF μ M A S L v l) (hk : KA A) (hl : l.length ≤ 34) {a b it : Int} (ha : 0 ≤ a ∧ a < 6) (hA : WB (bp (kp A) a)) (hb : 0 ≤ b ∧ b < 6) (hB : WB (bp (kp A) b)) (hi : iR it) (bk : Bool) : ∃ μ' v', f_Mo_refusal M μ (iz a) (iz b) (iz it) (iz (bI bk)) = some (iz (rfz (kp A) a b it bk), μ') ∧ RF μ' M A S L v' l ∧ Out M μ μ' := by
  have kr := rf_KR h hk
  have rc := rf_rc h
  have h60 : bp (kp A) b 6 ≤ 60 := by have := hB.b6; omega
  have hr2 := hB.rg 2
  unfold f_Mo_refusal f_Mo_refusal_9 f_Mo_refusal_48 rfz
  by_cases e0 : it < 0
  · refine ⟨μ, v, ?_, h, Out.rf⟩
    rw [zi_0, if_pos ((iz_lt hi (iR_s (by omega) (by omega))).mpr e0), if_pos (Or.inl e0), zi_m2]
  · rw [zi_0, if_neg (fun q => e0 ((iz_lt hi (iR_s (by omega) (by omega))).mp q))]
    by_cases e3 : it ≤ 3
    · rw [zi_3, if_pos ((iz_le hi (iR_s (by omega) (by omega))).mpr e3), if_neg (by omega), rc, Option.bind_some, zi_2, km_part kr hb.1 hb.2 (by omega) (by omega), Option.bind_some, Option.bind_some, km_single kr hb.1 hb.2, Option.bind_some, Option.bind_some, zi_9, km_grid kr hb.1 hb.2 h60 (by omega) (by omega), Option.bind_some, zi_1]
      by_cases e2 : bp (kp A) b 2 = 1
      · refine ⟨μ, v, ?_, h, Out.rf⟩
        rw [if_pos (congrArg iz e2), if_pos e2, iz_neg]
      · rw [if_neg (fun q => e2 ((iz_eq (iR_s (by omega) (by omega)) (iR_s (by omega) (by omega))).mp q)), if_neg e2]
        obtain ⟨m9, v9, s9, k9, o9⟩ := rf_154 h hk hl ha hA hb hB ⟨by omega, e3⟩ bk
        by_cases e1 : bp (kp A) b 3 = 1
        · rw [if_pos e1, if_neg (by decide), if_pos e1]
          unfold f_Mo_refusal_49 f_Mo_refusal_67 f_Mo_refusal_134
          rw [if_pos (by decide), if_pos (by decide), rc, Option.bind_some, km_single kr hb.1 hb.2, Option.bind_some, if_pos e1, if_neg (by decide), Option.bind_some, zi_1, km_ris kr hb.1 hb.2 (iR_s (by omega) (by omega)) h60 (hB.cur 1 (by omega) (by omega) (hB.way1 e1)), Option.bind_some]
          change ∃ μ' v', (if iz (bI (ris (bp (kp A) b) 1)) = 0 then _ else _) = _ ∧ _
          cases hr : ris (bp (kp A) b) 1 with
          | false =>
            refine ⟨μ, v, ?_, h, Out.rf⟩
            rw [if_pos (by decide), if_neg (by decide), zi_m6]
          | true =>
            refine ⟨m9, v9, ?_, k9, o9⟩
            rw [if_neg (by decide), if_pos rfl]
            exact s9
        · rw [if_neg e1, if_pos (by decide), if_neg e1]
          have gR := grz_R (b := bp (kp A) b) (f := 9) (Or.inr rfl) (it := it) (by omega)
          have g134 : ∀ (m : mM) (v0 : Int → Int), RF m M A S L v0 l → f_Mo_refusal_134 M m (iz a) (iz b) (iz it) (iz (bI bk)) = f_Mo_refusal_154 M m (iz a) (iz b) (iz it) (iz (bI bk)) := by
            intro m v0 hm
            unfold f_Mo_refusal_134
            rw [rf_rc hm, Option.bind_some, km_single (rf_KR hm hk) hb.1 hb.2, Option.bind_some, if_neg e1, if_pos (by decide)]
          by_cases eg : grz (bp (kp A) b) 9 it = 0
          · rw [if_pos (congrArg iz eg), if_pos eg]
            unfold f_Mo_refusal_49
            rw [if_neg (by decide), rc, Option.bind_some, km_shaped kr hb.1 hb.2 hB, Option.bind_some]
            by_cases hs : shp (bp (kp A) b)
            · rw [decide_eq_true hs, if_neg (by decide), if_neg (fun q => q hs)]
              unfold f_Mo_refusal_67
              rw [if_neg (by decide), rc, Option.bind_some]
              obtain ⟨A', S', o, m, h1, h3, h4, h5', h6⟩ := h
              have ek := sA_kp h3
              obtain ⟨m1, s1, k1, o1⟩ := nm_take h1 (sA_KA h3 hk) hb.1 hb.2 (by rw [ek]; exact h60) (by rw [ek]; exact hB.mat hs.2.2.2.1)
              rw [ek] at k1
              have R1 : RF m1 M A S L v l := ⟨A', S', _, _, k1, h3, h4, h5', h6⟩
              have dR := detz_R (m := mxz (bp (kp A) b) (da (bp (kp A) b) 5)) (fun i => mxz_R kr b _ i)
              have J1 : jR (detz (mxz (bp (kp A) b) (da (bp (kp A) b) 5))) := jR_s (by omega) (by omega)
              have J2 : jR (-16777216) := jR_s (by omega) (by omega)
              have J3 : jR 16777216 := jR_s (by omega) (by omega)
              rw [s1, Option.bind_some, rf_rc R1, Option.bind_some, nm_det k1, Option.bind_some, zj_m16777216, zj_16777216]
              have r104 : (∃ μ' v', f_Mo_refusal_104 M m1 (iz a) (iz b) (iz it) (iz (bI bk)) = some (iz (if ris (bp (kp A) b) 2 && ris (bp (kp A) b) 3 && ris (bp (kp A) b) 4 then rfE (kp A) a b it bk else -6), μ') ∧ RF μ' M A S L v' l ∧ Out M m1 μ') := by
                have kr1 := rf_KR R1 hk
                unfold f_Mo_refusal_104 f_Mo_refusal_131
                rw [rf_rc R1, Option.bind_some, zi_2, km_ris kr1 hb.1 hb.2 (iR_s (by omega) (by omega)) h60 (hB.cur 2 (by omega) (by omega) hs.1), Option.bind_some, Option.bind_some, zi_3, km_ris kr1 hb.1 hb.2 (iR_s (by omega) (by omega)) h60 (hB.cur 3 (by omega) (by omega) hs.2.1), Option.bind_some, Option.bind_some, zi_4, km_ris kr1 hb.1 hb.2 (iR_s (by omega) (by omega)) h60 (hB.cur 4 (by omega) (by omega) hs.2.2.1), Option.bind_some, g134 m1 v R1]
                change ∃ μ' v', (if iz (bI (ris (bp (kp A) b) 2)) = 0 then _ else if iz (bI (ris (bp (kp A) b) 3)) = 0 then _ else if iz (bI (ris (bp (kp A) b) 4)) = 0 then _ else _) = _ ∧ _
                cases hr2 : ris (bp (kp A) b) 2 with
                | false => exact ⟨m1, v, by rw [if_pos (by decide), zi_m6]; rfl, R1, Out.rf⟩
                | true =>
                  rw [if_neg (by decide)]
                  cases hr3 : ris (bp (kp A) b) 3 with
                  | false => exact ⟨m1, v, by rw [if_pos (by decide), zi_m6]; rfl, R1, Out.rf⟩
                  | true =>
                    rw [if_neg (by decide)]
                    cases hr4 : ris (bp (kp A) b) 4 with
                    | false => exact ⟨m1, v, by rw [if_pos (by decide), zi_m6]; rfl, R1, Out.rf⟩
                    | true =>
                      rw [if_neg (by decide)]
                      exact rf_154 R1 hk hl ha hA hb hB ⟨by omega, e3⟩ bk
              obtain ⟨m2, v2, s2, k2, o2⟩ := r104
              by_cases d1 : detz (mxz (bp (kp A) b) (da (bp (kp A) b) 5)) ≤ -16777216
              · refine ⟨m2, v2, ?_, k2, o1.tr o2⟩
                rw [if_pos ((jz_le J1 J2).mpr d1), if_neg (by omega)]
                exact s2
              · rw [if_neg (fun q => d1 ((jz_le J1 J2).mp q))]
                by_cases d2 : 16777216 ≤ detz (mxz (bp (kp A) b) (da (bp (kp A) b) 5))
                · refine ⟨m2, v2, ?_, k2, o1.tr o2⟩
                  rw [if_pos ((jz_le J3 J1).mpr d2), if_neg (by omega)]
                  exact s2
                · refine ⟨m1, v, ?_, R1, o1⟩
                  rw [if_neg (fun q => d2 ((jz_le J3 J1).mp q)), if_pos (by omega), zi_m5]
            · refine ⟨μ, v, ?_, h, Out.rf⟩
              rw [decide_eq_false hs, if_pos (by decide), if_pos hs, zi_m4]
          · rw [if_neg (fun q => eg ((iz_eq (iR_s (by omega) (by omega)) (iR_s (by omega) (by omega))).mp q)), if_neg eg]
            unfold f_Mo_refusal_49 f_Mo_refusal_67
            rw [if_pos (by decide), if_pos (by decide), g134 μ v h]
            exact ⟨m9, v9, s9, k9, o9⟩
    · refine ⟨μ, v, ?_, h, Out.rf⟩
      rw [zi_3, if_neg (fun q => e3 ((iz_le hi (iR_s (by omega) (by omega))).mp q)), if_pos (by omega), zi_m2]
end RFU
