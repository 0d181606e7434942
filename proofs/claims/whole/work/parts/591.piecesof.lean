/-! The pieces of a profile's ways, of the class. -/
section PCS
variable {φ μ : mM} {P : Nat} {K q : Int → Int} {p el : Int} {n : Nat}
theorem pf_1 : pf K (1, p, 0, 0) = crvz false (bp K p) (nch (bp K p)) (ocz (bp K p)) := by
  funext c
  show pfz K 1 p 0 0 c = _
  unfold pfz
  rw [if_pos rfl]
theorem pf_2 : pf K (2, p, 0, 0) = matz (mxz (bp K p) (da (bp K p) 5)) 4096 := by
  funext c
  show pfz K 2 p 0 0 c = _
  unfold pfz
  rw [if_neg (by decide), if_pos rfl]
theorem pf_3 (x : Int) : pf K (3, p, x, 0) = latz (bp K p (da (bp K p) x + 1)) (nbz (bp K p) (da (bp K p) x)) := by
  funext c
  show pfz K 3 p x 0 c = _
  unfold pfz
  rw [if_neg (by decide), if_neg (by decide), if_pos rfl]
theorem pf_4 : pf K (4, p, 0, 0) = sprz (bp K p 4) := by
  funext c
  show pfz K 4 p 0 0 c = _
  unfold pfz
  rw [if_neg (by decide), if_neg (by decide), if_neg (by decide), if_pos rfl]
theorem pf_9 : pf K (9, p, 0, 0) = gatz (bp K p 4) := by
  funext c
  show pfz K 9 p 0 0 c = _
  unfold pfz
  rw [if_neg (by decide), if_neg (by decide), if_neg (by decide), if_neg (by decide), if_neg (by decide), if_neg (by decide), if_neg (by decide), if_neg (by decide), if_pos rfl]
theorem pf_10 : pf K (10, p, 0, 0) = matz (turz (mxz (bp K p) (da (bp K p) 5))) (detz (mxz (bp K p) (da (bp K p) 5))) := by
  funext c
  show pfz K 10 p 0 0 c = _
  unfold pfz
  rw [if_neg (by decide), if_neg (by decide), if_neg (by decide), if_neg (by decide), if_neg (by decide), if_neg (by decide), if_neg (by decide), if_neg (by decide), if_neg (by decide), if_pos rfl]
theorem pf_11 : pf K (11, p, 0, 0) = crvz true (bp K p) (nch (bp K p)) (ocz (bp K p)) := by
  funext c
  show pfz K 11 p 0 0 c = _
  unfold pfz
  rw [if_neg (by decide), if_neg (by decide), if_neg (by decide), if_neg (by decide), if_neg (by decide), if_neg (by decide), if_neg (by decide), if_neg (by decide), if_neg (by decide), if_neg (by decide)]
theorem po_c1 {a : Nat} (h : CS φ a 1 (nch (bp K p)) (bp K p) (ocz (bp K p))) (hl : LO φ a (crO (bp K p))) : PO φ K (some a) (crl' (bp K p) 1 p) := by
  refine Or.inr ⟨a, (1, p, 0, 0), crO (bp K p), rfl, ?_, hl, rfl, fun u c _ i hi => ?_⟩
  · show PcR φ a 1 (pf K (1, p, 0, 0))
    rw [pf_1]
    exact pc_curves h (Or.inl rfl)
  · rw [pf_1]
    exact crO_id u i hi
/-- a left out piece of CURVES BACK need not be run: no link has it -/
def PB (φ : mM) (K : Int → Int) (x : Option Nat) (l : List Pz) : Prop := (x = none ∧ l = []) ∨ ∃ a q u, x = some a ∧ (u = false → PcR φ a q.1 (pf K q)) ∧ LO φ a u ∧ (∃ ci fs, φ a = some (.inr (ci, fs)) ∧ [0, 3, 4, 5, 6, 8].contains ci = true) ∧ l = (if u then [] else [q])
theorem PO.pb {x : Option Nat} {l : List Pz} (h : PO φ K x l) : PB φ K x l := by
  rcases h with h | ⟨a, q, u, h1, h2, h3, h4, h5⟩
  · exact Or.inl h
  · obtain ⟨ci, fs, g1, g2, g3⟩ := h2.1
    exact Or.inr ⟨a, q, u, h1, fun _ => h2, h3, ⟨ci, fs, g1, g3⟩, h4⟩
theorem pb_c11 {a : Nat} (h : CS φ a 11 (nch (bp K p)) (bp K p) (ocz (bp K p))) (hl : LO φ a (crO (bp K p))) : PB φ K (some a) (crl' (bp K p) 11 p) := by
  refine Or.inr ⟨a, (11, p, 0, 0), crO (bp K p), rfl, fun _ => ?_, hl, ?_, rfl⟩
  · show PcR φ a 11 (pf K (11, p, 0, 0))
    rw [pf_11]
    exact pc_curves h (Or.inr rfl)
  · obtain ⟨lo, ra, f, h1, -⟩ := h
    exact ⟨3, _, h1, rfl⟩
theorem mat_n {m c : Int → Int} (hm : ∀ k, -32768 ≤ m k ∧ m k ≤ 32768) (hl : lv3 c) {i : Int} (h0 : 0 ≤ i) (h1 : i < 3) : nRs (sum3 m c i) 4096 := by
  have := sum3_R (B := 32768) (fun k _ _ => hm k) h0 h1 hl
  exact ⟨fun _ => ⟨by omega, by omega, by omega, by omega⟩, fun q => by omega, by omega⟩
theorem mx_b (hb : WB (bp K p)) (o : Int) : ∀ k, -32768 ≤ mxz (bp K p) o k ∧ mxz (bp K p) o k ≤ 32768 := by
  intro k
  have a := hb.rg (o + 2 + 2 * k)
  have c := hb.rg (o + 2 + 2 * k + 1)
  unfold mxz wz
  split <;> omega
theorem po_m2 {a : Nat} (hb : WB (bp K p)) (h : MX φ a 2 (mxz (bp K p) (da (bp K p) 5)) 4096) (hl : LO φ a (mun (bp K p))) : PO φ K (some a) (mtl (bp K p) 2 p) := by
  refine Or.inr ⟨a, (2, p, 0, 0), mun (bp K p), rfl, ?_, hl, rfl, fun u c hc i hi => ?_⟩
  · show PcR φ a 2 (pf K (2, p, 0, 0))
    rw [pf_2]
    exact pc_matrix h (fun c hc i h0 h1 => mat_n (mx_b hb _) hc h0 h1)
  · rw [pf_2]
    exact mun_id u hc i hi
theorem det_unit {m : Int → Int} (h : muL m 9 0 = true) : detz m = 68719476736 := by
  have hm := muL_all 9 0 h
  have m0 : m 0 = 4096 := hm 0 (by omega) (by omega)
  have m1 : m 1 = 0 := hm 1 (by omega) (by omega)
  have m2 : m 2 = 0 := hm 2 (by omega) (by omega)
  have m3 : m 3 = 0 := hm 3 (by omega) (by omega)
  have m4 : m 4 = 4096 := hm 4 (by omega) (by omega)
  have m5 : m 5 = 0 := hm 5 (by omega) (by omega)
  have m6 : m 6 = 0 := hm 6 (by omega) (by omega)
  have m7 : m 7 = 0 := hm 7 (by omega) (by omega)
  have m8 : m 8 = 4096 := hm 8 (by omega) (by omega)
  unfold detz
  rw [m0, m1, m2, m3, m4, m5, m6, m7, m8]
  decide
theorem pb_m10 {a : Nat} (hb : WB (bp K p)) (hd : detz (mxz (bp K p) (da (bp K p) 5)) ≠ 0) (h : MX φ a 10 (turz (mxz (bp K p) (da (bp K p) 5))) (detz (mxz (bp K p) (da (bp K p) 5)))) (hl : LO φ a (mun (bp K p))) : PB φ K (some a) (mtl (bp K p) 10 p) := by
  refine Or.inr ⟨a, (10, p, 0, 0), mun (bp K p), rfl, fun _ => ?_, hl, ?_, rfl⟩
  · show PcR φ a 10 (pf K (10, p, 0, 0))
    rw [pf_10]
    exact pc_matrix h (fun c hc i h0 h1 => back_n (mx_b hb _) hd hc h0 h1)
  · obtain ⟨lo, fa, g, h1, -⟩ := h
    exact ⟨8, _, h1, rfl⟩
theorem LO.of {a ci : Nat} {fs : List Value} (h : φ a = some (.inr (ci, fs))) (h2 : fs[1]? = some (Value.int 0)) : LO φ a false := ⟨ci, fs, h, h2⟩
theorem po_grid {gi ra : Nat} {x : Int} (h : GR φ gi (bp K p (da (bp K p) x + 1)) (nbz (bp K p) (da (bp K p) x)) ra) : PO φ K (some gi) [(3, p, x, 0)] := by
  refine Or.inr ⟨gi, (3, p, x, 0), false, rfl, ?_, ?_, rfl, fun u => by cases u⟩
  · show PcR φ gi 3 (pf K (3, p, x, 0))
    rw [pf_3]
    exact pc_grid h
  · obtain ⟨pa, n, st, f, h1, -⟩ := h
    exact LO.of h1 rfl
theorem po_none : PO φ K none [] := Or.inl ⟨rfl, rfl⟩
theorem pr_fields {b : Int → Int} (h : PR0 φ P b el n q) (hF : Fr φ μ) : ∃ cf ef bb cb : Option Nat, mfA μ (some P) [9] 5 = some cf ∧ mfA μ (some P) [9] 6 = some ef ∧ mfA μ (some P) [9] 7 = some bb ∧ mfA μ (some P) [9] 8 = some cb ∧ (b 3 = 1 ∨ shp b → (∃ a, cf = some a ∧ CS φ a 1 (nch b) b (ocz b) ∧ LO φ a (crO b)) ∧ ∃ a, cb = some a ∧ CS φ a 11 (nch b) b (ocz b) ∧ LO φ a (crO b)) ∧ (¬ (b 3 = 1 ∨ shp b) → cf = none ∧ cb = none ∧ ef = none ∧ bb = none) ∧ (b 3 = 1 → (∃ a, ef = some a ∧ GY φ a 4 (b 4)) ∧ ∃ a, bb = some a ∧ GY φ a 9 (b 4)) ∧ (b 3 ≠ 1 → shp b → (∃ a, ef = some a ∧ MX φ a 2 (mxz b (da b 5)) 4096 ∧ LO φ a (mun b)) ∧ ∃ a, bb = some a ∧ MX φ a 10 (turz (mxz b (da b 5))) (detz (mxz b (da b 5))) ∧ LO φ a (mun b)) := by
  obtain ⟨pl, oa, cu, gr', wa, ba, cf, ef, bb, cb, fp, fc, fg, kc, kg, h1, h2, h3, h4, h5, h6, h7, h8, h9, h10⟩ := h
  have e := hF _ _ h1
  exact ⟨cf, ef, bb, cb, mfA_i e rfl rfl, mfA_i e rfl rfl, mfA_i e rfl rfl, mfA_i e rfl rfl, h7, h8, h9, h10⟩
theorem pr_forth (h : PR0 φ P (bp K p) el n q) (hb : WB (bp K p)) (hF : Fr φ μ) {it : Int} (hi : 0 ≤ it ∧ it ≤ 3) : ∃ x0 x1 l0 l1, ((mrc μ (some P) 9).bind fun a => f_Profile_forthPiece μ a (iz it) (iz 0)) = some x0 ∧ ((mrc μ (some P) 9).bind fun a => f_Profile_forthPiece μ a (iz it) (iz 1)) = some x1 ∧ PO φ K x0 l0 ∧ PO φ K x1 l1 ∧ fth (bp K p) p it = l0 ++ l1 := by
  obtain ⟨G1, G2⟩ := pr_grid h hF (f := 6) (Or.inl rfl) hi (by have := hb.b6; omega)
  obtain ⟨rc, -⟩ := pr_head h hF
  obtain ⟨cf, ef, bb, cb, f5, f6, f7, f8, h7, h8, h9, h10⟩ := pr_fields h hF
  unfold f_Profile_forthPiece f_Profile_forthPiece_21 f_Profile_forthPiece_37 fth
  rw [rc, Option.bind_some, Option.bind_some, rc, Option.bind_some, zi_6]
  by_cases h3 : bp K p 3 = 1
  · obtain ⟨⟨a, e1, e2, e3⟩, -⟩ := h7 (Or.inl h3)
    obtain ⟨⟨a4, e4, e5⟩, -⟩ := h9 h3
    refine ⟨cf, ef, crl' (bp K p) 1 p, [(4, p, 0, 0)], ?_, ?_, ?_, ?_, ?_⟩
    · rw [G1 (Or.inl h3), Option.bind_some, if_pos rfl, if_pos (by decide), f5, Option.bind_some]
    · rw [G1 (Or.inl h3), Option.bind_some, if_pos rfl, if_neg (by decide), f6, Option.bind_some]
    · rw [e1]
      exact po_c1 e2 e3
    · rw [e4]
      refine Or.inr ⟨a4, (4, p, 0, 0), false, rfl, ?_, LO.of e5 rfl, rfl, fun u => by cases u⟩
      show PcR φ a4 4 (pf K (4, p, 0, 0))
      rw [pf_4]
      exact pc_spread e5 hb.b4
    · rw [if_pos h3]
  · rw [if_neg h3]
    by_cases hg : 0 < grz (bp K p) 6 it
    · obtain ⟨gi, ra, g1, g2⟩ := G2 h3 hg
      refine ⟨some gi, none, [(3, p, grz (bp K p) 6 it, 0)], [], ?_, ?_, po_grid g2, po_none, ?_⟩
      · rw [g1, Option.bind_some, if_neg (by simp), if_pos (by decide)]
      · rw [g1, Option.bind_some, if_neg (by simp), if_neg (by decide)]
      · rw [if_pos hg, List.append_nil]
    · have hs := fth_shp hb hi h3 hg
      obtain ⟨⟨a, e1, e2, e3⟩, -⟩ := h7 (Or.inr hs)
      obtain ⟨⟨a4, e4, e5, e6⟩, -⟩ := h10 h3 hs
      refine ⟨cf, ef, crl' (bp K p) 1 p, mtl (bp K p) 2 p, ?_, ?_, ?_, ?_, ?_⟩
      · rw [G1 (Or.inr hg), Option.bind_some, if_pos rfl, if_pos (by decide), f5, Option.bind_some]
      · rw [G1 (Or.inr hg), Option.bind_some, if_pos rfl, if_neg (by decide), f6, Option.bind_some]
      · rw [e1]
        exact po_c1 e2 e3
      · rw [e4]
        exact po_m2 hb e5 e6
      · rw [if_neg hg]
theorem pr_back (h : PR0 φ P (bp K p) el n q) (hb : WB (bp K p)) (hF : Fr φ μ) {it : Int} (hi : 0 ≤ it ∧ it ≤ 3) (ho : bok (bp K p) it) : ∃ x0 x1 l0 l1, ((mrc μ (some P) 9).bind fun a => f_Profile_backPiece μ a (iz it) (iz 0)) = some x0 ∧ ((mrc μ (some P) 9).bind fun a => f_Profile_backPiece μ a (iz it) (iz 1)) = some x1 ∧ PB φ K x0 l0 ∧ PB φ K x1 l1 ∧ bck (bp K p) p it = l0 ++ l1 := by
  obtain ⟨G1, G2⟩ := pr_grid h hF (f := 9) (Or.inr rfl) hi (by have := hb.b6; omega)
  obtain ⟨rc, -⟩ := pr_head h hF
  obtain ⟨cf, ef, bb, cb, f5, f6, f7, f8, h7, h8, h9, h10⟩ := pr_fields h hF
  unfold f_Profile_backPiece f_Profile_backPiece_21 f_Profile_backPiece_37 bck
  rw [rc, Option.bind_some, Option.bind_some, rc, Option.bind_some, zi_9]
  by_cases h3 : bp K p 3 = 1
  · obtain ⟨-, ⟨a, e1, e2, e3⟩⟩ := h7 (Or.inl h3)
    obtain ⟨-, ⟨a4, e4, e5⟩⟩ := h9 h3
    refine ⟨bb, cb, [(9, p, 0, 0)], crl' (bp K p) 11 p, ?_, ?_, ?_, ?_, ?_⟩
    · rw [G1 (Or.inl h3), Option.bind_some, if_pos rfl, if_pos (by decide), f7, Option.bind_some]
    · rw [G1 (Or.inl h3), Option.bind_some, if_pos rfl, if_neg (by decide), f8, Option.bind_some]
    · rw [e4]
      refine PO.pb (Or.inr ⟨a4, (9, p, 0, 0), false, rfl, ?_, LO.of e5 rfl, rfl, fun u => by cases u⟩)
      show PcR φ a4 9 (pf K (9, p, 0, 0))
      rw [pf_9]
      exact pc_gather e5 hb.b4
    · rw [e1]
      exact pb_c11 e2 e3
    · rw [if_pos h3]
  · rw [if_neg h3]
    by_cases hg : 0 < grz (bp K p) 9 it
    · obtain ⟨gi, ra, g1, g2⟩ := G2 h3 hg
      refine ⟨some gi, none, [(3, p, grz (bp K p) 9 it, 0)], [], ?_, ?_, (po_grid g2).pb, po_none.pb, ?_⟩
      · rw [g1, Option.bind_some, if_neg (by simp), if_pos (by decide)]
      · rw [g1, Option.bind_some, if_neg (by simp), if_neg (by decide)]
      · rw [if_pos hg, List.append_nil]
    · obtain ⟨hs, hd⟩ : shp (bp K p) ∧ detz (mxz (bp K p) (da (bp K p) 5)) ≠ 0 := by
        rcases ho with q | q | q
        · exact absurd q h3
        · exact absurd q hg
        · exact q
      obtain ⟨-, ⟨a, e1, e2, e3⟩⟩ := h7 (Or.inr hs)
      obtain ⟨-, ⟨a4, e4, e5, e6⟩⟩ := h10 h3 hs
      refine ⟨bb, cb, mtl (bp K p) 10 p, crl' (bp K p) 11 p, ?_, ?_, ?_, ?_, ?_⟩
      · rw [G1 (Or.inr hg), Option.bind_some, if_pos rfl, if_pos (by decide), f7, Option.bind_some]
      · rw [G1 (Or.inr hg), Option.bind_some, if_pos rfl, if_neg (by decide), f8, Option.bind_some]
      · rw [e4]
        exact pb_m10 hb hd e5 e6
      · rw [e1]
        exact pb_c11 e2 e3
      · rw [if_neg hg]
end PCS
