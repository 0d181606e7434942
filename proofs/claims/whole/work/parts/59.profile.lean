/-! The class's profile against the bytes that the reference keeps. -/
def LO (φ : mM) (a : Nat) (u : Bool) : Prop := ∃ ci fs, φ a = some (.inr (ci, fs)) ∧ fs[1]? = some (Value.int (iz (bI u)))
def PO (φ : mM) (K : Int → Int) (x : Option Nat) (l : List Pz) : Prop := (x = none ∧ l = []) ∨ ∃ a q u, x = some a ∧ PcR φ a q.1 (pf K q) ∧ LO φ a u ∧ l = (if u then [] else [q]) ∧ (u = true → ∀ c, lv3 c → ∀ i : Nat, i < 3 → pf K q c i = c i)
def PR0 (φ : mM) (P : Nat) (b : Int → Int) (el : Int) (n : Nat) (q : Int → Int) : Prop := ∃ (pl oa cu gr wa ba : Nat) (cf ef bb cb : Option Nat) (f : Nat → Int32) (fc fg : Nat → Option Nat) (kc kg : Nat), φ P = some (.inr (9, [.ref pl, .int (iz el), .ref oa, .ref cu, .ref gr, va_rf cf, va_rf ef, va_rf bb, va_rf cb, .ref wa, .ref ba])) ∧ (φ pl = some (.inl (0, n, .inl f)) ∧ (∀ i : Nat, i < n → f i = iz (q i)) ∧ 12 ≤ n ∧ n ≤ 256 ∧ q 2 = b 2 ∧ q 3 = b 3 ∧ q 4 = b 4) ∧ (φ cu = some (.inl (kc + 3, 5, .inr (.inr (.inr (.inr fc))))) ∧ kc < 5) ∧ (φ gr = some (.inl (kg + 3, 13, .inr (.inr (.inr (.inr fg))))) ∧ kg < 5) ∧ (∀ s : Nat, 1 ≤ s → s ≤ 4 → (en b s < 0 → fc s = none) ∧ (0 ≤ en b s → ∃ ci, fc s = some ci ∧ CV φ ci (cg b (da b s)) (cn b (da b s)) (cw b (da b s)))) ∧ (∀ s : Nat, 6 ≤ s → s ≤ 11 → (b 3 = 1 ∨ en b s < 0 → fg s = none) ∧ (b 3 ≠ 1 → 0 ≤ en b s → ∃ gi ra, fg s = some gi ∧ GR φ gi (b (da b s + 1)) (nbz b (da b s)) ra)) ∧ (b 3 = 1 ∨ shp b → (∃ a, cf = some a ∧ CS φ a 1 (nch b) b (ocz b) ∧ LO φ a (crO b)) ∧ ∃ a, cb = some a ∧ CS φ a 11 (nch b) b (ocz b) ∧ LO φ a (crO b)) ∧ (¬ (b 3 = 1 ∨ shp b) → cf = none ∧ cb = none ∧ ef = none ∧ bb = none) ∧ (b 3 = 1 → (∃ a, ef = some a ∧ GY φ a 4 (b 4)) ∧ ∃ a, bb = some a ∧ GY φ a 9 (b 4)) ∧ (b 3 ≠ 1 → shp b → (∃ a, ef = some a ∧ MX φ a 2 (mxz b (da b 5)) 4096 ∧ LO φ a (mun b)) ∧ ∃ a, bb = some a ∧ MX φ a 10 (turz (mxz b (da b 5))) (detz (mxz b (da b 5))) ∧ LO φ a (mun b))
theorem stb_id {b : Int → Int} {s x : Int} (h : stb b s = true) : cvb b (da b s) x = x ∧ True := by
  obtain ⟨h1, h2⟩ := of_decide_eq_true h
  refine ⟨?_, trivial⟩
  unfold cvb cval cg cn
  rw [if_pos h1, if_pos h1, if_neg (by omega), if_pos (by omega)]
theorem crO_id {b c : Int → Int} (h : crO b = true) : ∀ i : Nat, i < 3 → crvz false b (nch b) (ocz b) c i = c i := by
  unfold crO at h
  intro i hi
  unfold crvz nch ocz
  by_cases h3 : b 3 = 1
  · rw [if_pos h3] at h
    rw [if_pos h3, if_pos h3]
    split
    · rw [if_neg (by decide)]
      exact (stb_id h).1
    · rfl
  · rw [if_neg h3] at h
    rw [if_neg h3, if_neg h3, if_pos (by omega), if_neg (by decide)]
    rw [Bool.and_eq_true, Bool.and_eq_true] at h
    have hh : i = 0 ∨ i = 1 ∨ i = 2 := by omega
    rcases hh with rfl | rfl | rfl
    · exact (stb_id h.1.1).1
    · exact (stb_id h.1.2).1
    · exact (stb_id h.2).1
theorem nz_m {x : Int} : nz (4096 * x) 4096 = x := by
  unfold nz
  omega
theorem cz_id {x : Int} (h : lvl x) : cz x = x := by
  obtain ⟨h1, h2⟩ := h
  unfold cz
  rw [if_neg (by omega), if_neg (by omega)]
theorem muL_all {m : Int → Int} : ∀ (n : Nat) (i : Int), muL m n i = true → ∀ k : Int, i ≤ k → k < i + n → m k = if k % 4 = 0 then 4096 else 0
  | 0, i, _, k, h1, h2 => by omega
  | n + 1, i, h, k, h1, h2 => by
    unfold muL at h
    rw [Bool.and_eq_true] at h
    by_cases e : k = i
    · rw [e]
      exact of_decide_eq_true h.1
    · exact muL_all n (i + 1) h.2 k (by omega) (by omega)
theorem mun_id {b c : Int → Int} (h : mun b = true) (hl : lv3 c) : ∀ i : Nat, i < 3 → matz (mxz b (da b 5)) 4096 c i = c i := by
  have hm := muL_all 9 0 h
  generalize mxz b (da b 5) = m at hm
  have m0 : m 0 = 4096 := hm 0 (by omega) (by omega)
  have m1 : m 1 = 0 := hm 1 (by omega) (by omega)
  have m2 : m 2 = 0 := hm 2 (by omega) (by omega)
  have m3 : m 3 = 0 := hm 3 (by omega) (by omega)
  have m4 : m 4 = 4096 := hm 4 (by omega) (by omega)
  have m5 : m 5 = 0 := hm 5 (by omega) (by omega)
  have m6 : m 6 = 0 := hm 6 (by omega) (by omega)
  have m7 : m 7 = 0 := hm 7 (by omega) (by omega)
  have m8 : m 8 = 4096 := hm 8 (by omega) (by omega)
  have fin : ∀ x : Int, lvl x → cz (nzs (4096 * x) 4096) = x := by
    intro x hx
    unfold nzs
    rw [if_neg (by omega), nz_m, cz_id hx]
  have l0' := hl 0 (by omega)
  have l1' := hl 1 (by omega)
  have l2' := hl 2 (by omega)
  refine lt3 ?_ ?_ ?_
  · show cz (nzs (m 0 * c 0 + m 1 * c 1 + m 2 * c 2) 4096) = c 0
    rw [m0, m1, m2]
    simpa using fin (c 0) l0'
  · show cz (nzs (m 3 * c 0 + m 4 * c 1 + m 5 * c 2) 4096) = c 1
    rw [m3, m4, m5]
    simpa using fin (c 1) l1'
  · show cz (nzs (m 6 * c 0 + m 7 * c 1 + m 8 * c 2) 4096) = c 2
    rw [m6, m7, m8]
    simpa using fin (c 2) l2'
section PRF
variable {φ μ : mM} {P : Nat} {b q : Int → Int} {el : Int} {n : Nat}
theorem pr_head (h : PR0 φ P b el n q) (hF : Fr φ μ) : mrc μ (some P) 9 = some P ∧ ∃ pl, mfA μ (some P) [9] 0 = some (some pl) ∧ ml μ (some pl) = some (nI n) ∧ (∀ i : Int, 0 ≤ i → i < n → mgI μ (some pl) (iz i) = some (iz (q i))) ∧ 12 ≤ n ∧ n ≤ 256 ∧ q 2 = b 2 ∧ q 3 = b 3 ∧ q 4 = b 4 := by
  obtain ⟨pl, oa, cu, gr', wa, ba, cf, ef, bb, cb, f, fc, fg, kc, kg, h1, ⟨h2, h3, h4, h5, h6⟩, -⟩ := h
  have e := hF _ _ h1
  refine ⟨mrc_i e, pl, mfA_i (v := some pl) e rfl rfl, ml_i (hF _ _ h2) (by decide), fun i i0 i1 => ?_, h4, h5, h6⟩
  rw [mgI_z (hF _ _ h2) i0 i1 (by omega), h3 _ (by omega), Int.toNat_of_nonneg i0]
theorem pr_grid (h : PR0 φ P b el n q) (hF : Fr φ μ) {f it : Int} (hf : f = 6 ∨ f = 9) (hi : 0 ≤ it ∧ it ≤ 3) (h6 : 0 ≤ b 6) : (b 3 = 1 ∨ ¬ 0 < grz b f it → f_Profile_gridFor μ P (iz f) (iz it) = some none) ∧ (b 3 ≠ 1 → 0 < grz b f it → ∃ gi ra, f_Profile_gridFor μ P (iz f) (iz it) = some (some gi) ∧ GR φ gi (b (da b (grz b f it) + 1)) (nbz b (da b (grz b f it))) ra) := by
  obtain ⟨pl, oa, cu, gr', wa, ba, cf, ef, bb, cb, fp, fc, fg, kc, kg, h1, h2, h3, ⟨h4, hkg⟩, h5, hg, -⟩ := h
  have e4 : mfA μ (some P) [9] 4 = some (some gr') := mfA_i (v := some gr') (hF _ _ h1) rfl rfl
  have eg : ∀ s : Int, 0 ≤ s → s < 13 → mgA μ (some gr') (iz s) = some (fg s.toNat) := by
    intro s s0 s1
    rw [iz_nat s0]
    exact mgA_i (hF _ _ h4) hkg (by omega) (by omega)
  obtain ⟨j, hj⟩ : ∃ j, j = (if it = 3 then (1 : Int) else it) := ⟨_, rfl⟩
  have hj2 : 0 ≤ j ∧ j ≤ 2 := by
    rw [hj]
    split <;> omega
  have E : f_Profile_gridFor μ P (iz f) (iz it) = (if fg (f + j).toNat = none then some (fg f.toNat) else some (fg (f + j).toNat)) := by
    have e10 : f_Profile_gridFor_10 μ P (iz f) (iz j) = (if fg (f + j).toNat = none then some (fg f.toNat) else some (fg (f + j).toNat)) := by
      unfold f_Profile_gridFor_10 f_Profile_gridFor_32 f_Profile_gridFor_50
      rw [zi_0, if_neg (fun q => by have := (iz_lt (iR_s (by omega) (by omega)) (iR_s (by omega) (by omega))).mp q; omega), zi_3, if_neg (fun q => by have := (iz_le (iR_s (by omega) (by omega)) (iR_s (by omega) (by omega))).mp q; omega), e4, Option.bind_some, iz_add, eg _ (by omega) (by omega), Option.bind_some, Option.bind_some, eg _ (by omega) (by omega), Option.bind_some]
    unfold f_Profile_gridFor
    by_cases e3 : it = 3
    · rw [zi_3, if_pos (congrArg iz e3), zi_1]
      rw [if_pos e3] at hj
      rw [← hj]
      exact e10
    · rw [zi_3, if_neg (fun q => e3 ((iz_eq (iR_s (by omega) (by omega)) (iR_s (by omega) (by omega))).mp q))]
      rw [if_neg e3] at hj
      rw [← hj]
      exact e10
  have A1 := hg (f + j).toNat (by omega) (by omega)
  have A2 := hg f.toNat (by omega) (by omega)
  rw [Int.toNat_of_nonneg (by omega)] at A1 A2
  have g1 : grz b f it = if 0 < en b (f + j) then f + j else if 0 < en b f then f else 0 := by
    unfold grz
    rw [← hj]
  rw [E, g1]
  have p1 := en_pos h6 (f + j)
  have p2' := en_pos h6 f
  refine ⟨fun hh => ?_, fun h3' hh => ?_⟩
  · have n1 : fg (f + j).toNat = none := by
      apply A1.1
      rcases hh with hh | hh
      · exact Or.inl hh
      · right
        apply Int.not_le.mp
        intro q
        apply hh
        rw [if_pos (p1.mpr q)]
        omega
    have n2 : fg f.toNat = none := by
      apply A2.1
      rcases hh with hh | hh
      · exact Or.inl hh
      · right
        apply Int.not_le.mp
        intro q
        apply hh
        split
        · omega
        · rw [if_pos (p2'.mpr q)]
          omega
    rw [if_pos n1, n2]
  · by_cases c1 : 0 < en b (f + j)
    · obtain ⟨gi, ra, x1, x2⟩ := A1.2 h3' (by omega)
      refine ⟨gi, ra, ?_, ?_⟩
      · rw [x1, if_neg (by simp)]
      · rw [if_pos c1]
        exact x2
    · have n1 : fg (f + j).toNat = none := A1.1 (Or.inr (by omega))
      by_cases c2 : 0 < en b f
      · obtain ⟨gi, ra, x1, x2⟩ := A2.2 h3' (by omega)
        refine ⟨gi, ra, ?_, ?_⟩
        · rw [if_pos n1, x1]
        · rw [if_neg c1, if_pos c2]
          exact x2
      · rw [if_neg c1, if_neg c2] at hh
        omega
end PRF
