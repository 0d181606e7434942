/-! The reference's links: the table, the chain of a link. -/
def POK (K : Int → Int) (a b it : Int) (bk : Bool) : Prop := (0 ≤ a ∧ a < 6) ∧ WB (bp K a) ∧ (0 ≤ b ∧ b < 6) ∧ WB (bp K b) ∧ (0 ≤ it ∧ it ≤ 3) ∧ bok (bp K b) it ∧ (it = 3 → owz (bp K a) (bp K b) = true → wz0 (bp K b) = false) ∧ (bk = true → it < 3 → blz K a it < 32768 ∧ blz K b it < 32768)
theorem rfE_ok {K : Int → Int} {a b it : Int} {bk : Bool} (h : rfE K a b it bk = 0) : (it = 3 → owz (bp K a) (bp K b) = true → wz0 (bp K b) = false) ∧ (bk = true → it < 3 → blz K a it < 32768 ∧ blz K b it < 32768) := by
  unfold rfE at h
  by_cases e3 : it = 3
  · rw [if_pos e3] at h
    refine ⟨fun _ ho => ?_, fun _ q => by omega⟩
    rw [ho, Bool.true_and] at h
    cases hw : wz0 (bp K b) with
    | false => rfl
    | true =>
      rw [hw, if_pos rfl] at h
      omega
  · rw [if_neg e3] at h
    refine ⟨fun q => absurd q e3, fun hb _ => ?_⟩
    rw [hb, if_pos rfl] at h
    by_cases q : 32768 ≤ blz K a it ∨ 32768 ≤ blz K b it
    · rw [if_pos q] at h
      omega
    · omega
theorem rfz_ok {K : Int → Int} {a b it : Int} {bk : Bool} (ha : 0 ≤ a ∧ a < 6) (hA : WB (bp K a)) (hb : 0 ≤ b ∧ b < 6) (hB : WB (bp K b)) (h : rfz K a b it bk = 0) : POK K a b it bk := by
  unfold rfz at h
  by_cases e0 : it < 0 ∨ 3 < it
  · rw [if_pos e0] at h
    omega
  · rw [if_neg e0] at h
    by_cases e2 : bp K b 2 = 1
    · rw [if_pos e2] at h
      omega
    · rw [if_neg e2] at h
      have hi : 0 ≤ it ∧ it ≤ 3 := by omega
      by_cases e1 : bp K b 3 = 1
      · rw [if_pos e1] at h
        cases hr : ris (bp K b) 1 with
        | false =>
          rw [hr, if_neg (by decide)] at h
          omega
        | true =>
          rw [hr, if_pos rfl] at h
          exact ⟨ha, hA, hb, hB, hi, Or.inl e1, rfE_ok h⟩
      · rw [if_neg e1] at h
        by_cases eg : grz (bp K b) 9 it = 0
        · rw [if_pos eg] at h
          by_cases es : shp (bp K b)
          · rw [if_neg (fun q => q es)] at h
            by_cases ed : -16777216 < detz (mxz (bp K b) (da (bp K b) 5)) ∧ detz (mxz (bp K b) (da (bp K b) 5)) < 16777216
            · rw [if_pos ed] at h
              omega
            · rw [if_neg ed] at h
              split at h
              · exact ⟨ha, hA, hb, hB, hi, Or.inr (Or.inr ⟨es, by omega⟩), rfE_ok h⟩
              · omega
          · rw [if_pos es] at h
            omega
        · rw [if_neg eg] at h
          have gR := grz_R (b := bp K b) (f := 9) (Or.inr rfl) (it := it) hi
          exact ⟨ha, hA, hb, hB, hi, Or.inr (Or.inl (by omega)), rfE_ok h⟩
theorem psz_pv {K : Int → Int} {a b it : Int} {bk : Bool} (h : POK K a b it bk) : ∀ q ∈ psz K a b it bk, pv K q := by
  obtain ⟨ha, hA, hb, hB, hi, ho, hs, hd⟩ := h
  intro q hq
  unfold psz at hq
  rw [List.mem_append, List.mem_append, List.mem_append] at hq
  rcases hq with hq | hq | hq | hq
  · exact fth_pv ha hA hi q hq
  · unfold adj at hq
    by_cases hn : ndz K a b it bk = true
    · rw [if_pos hn, List.mem_append] at hq
      rcases hq with hq | hq
      · exact blp_pv ha hA hi q (List.mem_append_right _ hq)
      · rw [List.mem_singleton] at hq
        subst hq
        cases hsc : scz K a b it with
        | true =>
          unfold scz at hsc
          rw [Bool.and_eq_true] at hsc
          have w := hs (of_decide_eq_true hsc.1) hsc.2
          unfold wz0 at w
          have w' := of_decide_eq_false w
          refine ⟨ha.1, ha.2, hA, ?_⟩
          have hw : ∀ i : Nat, i < 3 → 0 < whz (bp K b) i := lt3 (by
            have := (whz_R hB (i := 0) (by omega) (by omega)).1
            show 0 < whz (bp K b) 0
            omega) (by
            have := (whz_R hB (i := 1) (by omega) (by omega)).1
            show 0 < whz (bp K b) 1
            omega) (by
            have := (whz_R hB (i := 2) (by omega) (by omega)).1
            show 0 < whz (bp K b) 2
            omega)
          exact Or.inr (Or.inr (Or.inr (Or.inr (Or.inr (Or.inr (Or.inl ⟨by simp, by simpa using hb.1, by simpa using hb.2, by simpa using hB, by simpa using hw⟩))))))
        | false =>
          unfold ndz at hn
          rw [hsc, Bool.false_or] at hn
          have hne := of_decide_eq_true hn
          have hbk : bk = true ∧ it < 3 := by
            apply Classical.byContradiction
            intro q
            apply hne
            unfold drk
            rw [if_neg q, if_neg q]
          have dd := hd hbk.1 hbk.2
          have e1 : drk K a it bk = blz K a it := if_pos hbk
          have e2 : drk K b it bk = blz K b it := if_pos hbk
          have r1 := (blz_R (it := it) ha hA hi).1
          have r2 := (blz_R (it := it) hb hB hi).1
          refine ⟨ha.1, ha.2, hA, ?_⟩
          exact Or.inr (Or.inr (Or.inr (Or.inr (Or.inr (Or.inr (Or.inr (Or.inl ⟨by simp, by simp [e1, r1], by simp [e1, dd.1], by simp [e2, r2], by simp [e2, dd.2]⟩)))))))
    · rw [if_neg hn] at hq
      cases hq
  · unfold cnv at hq
    split at hq
    · cases hq
    · rw [List.mem_singleton] at hq
      subst hq
      refine ⟨hb.1, hb.2, hB, ?_⟩
      cases (!ndz K a b it bk && labz (bp K a)) <;> simp
  · exact bck_pv hb hB hi ho q hq
