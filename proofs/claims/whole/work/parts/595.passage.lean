/-! The class's passage. -/
theorem Fr.put2 {φ μ μ' : mM} {X Y : Nat} (h : Fr φ μ) (h1 : φ X = Option.none) (h2 : φ Y = Option.none) (o : ∀ b, b ≠ X → b ≠ Y → μ' b = μ b) : Fr φ μ' := by
  intro a e he
  rw [o a (fun q => by rw [q, h1] at he; cases he) (fun q => by rw [q, h2] at he; cases he)]
  exact h _ _ he
theorem PR0.mono {φ ψ : mM} {P : Nat} {b q : Int → Int} {el : Int} {n : Nat} (h : PR0 φ P b el n q) (hf : Fr φ ψ) : PR0 ψ P b el n q := by
  obtain ⟨pl, oa, cu, gr', wa, ba, cf, ef, bb, cb, f, fc, fg, kc, kg, h1, ⟨h2, h2'⟩, ⟨h3, h3'⟩, ⟨h4, h4'⟩, h5, h6, h7, h8, h9, h10⟩ := h
  refine ⟨pl, oa, cu, gr', wa, ba, cf, ef, bb, cb, f, fc, fg, kc, kg, hf _ _ h1, ⟨hf _ _ h2, h2'⟩, ⟨hf _ _ h3, h3'⟩, ⟨hf _ _ h4, h4'⟩, fun s s1 s2 => ⟨(h5 s s1 s2).1, fun e => ?_⟩, fun s s1 s2 => ⟨(h6 s s1 s2).1, fun e1 e2 => ?_⟩, fun e => ?_, h8, fun e => ?_, fun e1 e2 => ?_⟩
  · obtain ⟨ci, c1, c2⟩ := (h5 s s1 s2).2 e
    exact ⟨ci, c1, c2.mono hf⟩
  · obtain ⟨gi, ra, c1, pa, m, st, g, d1, d2, d3⟩ := (h6 s s1 s2).2 e1 e2
    exact ⟨gi, ra, c1, pa, m, st, g, hf _ _ d1, hf _ _ d2, d3⟩
  · have cm : ∀ {a : Nat} {kd n : Int} {b oc : Int → Int}, CS φ a kd n b oc → CS ψ a kd n b oc := by
      intro a kd n b oc hc
      obtain ⟨lo, ra, g, d1, d2, d3, d4⟩ := hc
      exact ⟨lo, ra, g, hf _ _ d1, hf _ _ d2, d3, fun i hi => by
        obtain ⟨ci, c1, c2, c3⟩ := d4 i hi
        exact ⟨ci, c1, c2.mono hf, c3⟩⟩
    obtain ⟨⟨a1, c1, c2, c3⟩, ⟨a2, d1, d2, d3⟩⟩ := h7 e
    exact ⟨⟨a1, c1, cm c2, c3.mono hf⟩, ⟨a2, d1, cm d2, d3.mono hf⟩⟩
  · obtain ⟨⟨a1, c1, c2⟩, ⟨a2, d1, d2⟩⟩ := h9 e
    exact ⟨⟨a1, c1, hf _ _ c2⟩, ⟨a2, d1, hf _ _ d2⟩⟩
  · have mm : ∀ {a : Nat} {kd d : Int} {f : Int → Int}, MX φ a kd f d → MX ψ a kd f d := by
      intro a kd d f hc
      obtain ⟨lo, fa, g, d1, d2, d3⟩ := hc
      exact ⟨lo, fa, g, hf _ _ d1, hf _ _ d2, d3⟩
    obtain ⟨⟨a1, c1, c2, c3⟩, ⟨a2, d1, d2, d3⟩⟩ := h10 e1 e2
    exact ⟨⟨a1, c1, mm c2, c3.mono hf⟩, ⟨a2, d1, mm d2, d3.mono hf⟩⟩
theorem PR.mono {φ ψ : mM} {P : Nat} {K q : Int → Int} {p el : Int} {n : Nat} (h : PR φ P K p el n q) (hf : Fr φ ψ) : PR ψ P K p el n q := ⟨h.1.mono hf, h.2.mono hf⟩
theorem sp_bI {b : Int → Int} (h : WB b) : iz (b 4) = iz (bI (labz b)) := by
  have h4 := h.b4
  unfold labz bI
  by_cases e : b 4 = 1
  · rw [decide_eq_true e, if_pos rfl, e]
  · rw [decide_eq_false e, if_neg (by decide), show b 4 = 0 by omega]
section CPS
variable {φ μ : mM} {X P Q z w : Nat} {K : Int → Int} {a b it : Int} {bk : Bool} {kc mc pr : Int32} {ads : List Nat} {l : List Pz} {el el' : Int} {n n' : Nat} {q q' : Int → Int}
theorem pr_space {p : Int} (h : PR0 φ P (bp K p) el n q) (hF : Fr φ μ) (hb : WB (bp K p)) : ((mrc μ (some P) 9).bind fun a => f_Profile_space μ a) = some (iz (bI (labz (bp K p)))) := by
  obtain ⟨rc, pl, p0, pl1, p1, p2', p3, p4, p5, p6⟩ := pr_head h hF
  unfold f_Profile_space
  rw [rc, Option.bind_some, p0, Option.bind_some, zi_4, p1 4 (by omega) (by omega), Option.bind_some, p6, sp_bI hb]
theorem cl_p98 (h : CHS μ X kc mc pr ads) (hC : ChR φ K ads l) (hF : Fr φ μ) (hX : φ X = none) (hX7 : φ (X + 7) = none) (hl : l.length ≤ 29) (hQ : PR0 φ Q (bp K b) el' n' q') (hB : WB (bp K b)) (hi : 0 ≤ it ∧ it ≤ 3) (ho : bok (bp K b) it) : ∃ μ' ads', f_CL_chainPassage_98 X μ z w (some Q) (iz it) = some (μ', z, w) ∧ CHS μ' X kc mc pr ads' ∧ ChR φ K ads' (l ++ bck (bp K b) b it) ∧ ∀ b, b ≠ X → b ≠ X + 7 → μ' b = μ b := by
  obtain ⟨x0, x1, l0, l1, e0, e1, p0, p1, eb⟩ := pr_back hQ hB hF hi ho
  have bl := bck_len (bp K b) b it
  rw [eb, List.length_append] at bl
  obtain ⟨m1, a1, s1, k1, c1, o1⟩ := cl_chain h hC hF (by omega) p0
  have F1 := hF.put2 hX hX7 o1
  obtain ⟨y0, y1, j0, j1, e0', e1', -⟩ := pr_back hQ hB F1 hi ho
  have ex : y1 = x1 := by
    obtain ⟨G1, G2⟩ := pr_grid hQ hF (f := 9) (Or.inr rfl) hi (by have := hB.b6; omega)
    obtain ⟨G1', G2'⟩ := pr_grid hQ F1 (f := 9) (Or.inr rfl) hi (by have := hB.b6; omega)
    obtain ⟨pl, oa, cu, gr', wa, ba, cf, ef, bb, cb, f, fc, fg, kc', kg, h1, -⟩ := hQ
    have f8 : mfA μ (some Q) [9] 8 = some cb := mfA_i (hF _ _ h1) rfl rfl
    have f8' : mfA m1 (some Q) [9] 8 = some cb := mfA_i (F1 _ _ h1) rfl rfl
    have rc : mrc μ (some Q) 9 = some Q := mrc_i (hF _ _ h1)
    have rc' : mrc m1 (some Q) 9 = some Q := mrc_i (F1 _ _ h1)
    unfold f_Profile_backPiece f_Profile_backPiece_21 f_Profile_backPiece_37 at e1 e1'
    rw [rc, Option.bind_some, rc, Option.bind_some, zi_9] at e1
    rw [rc', Option.bind_some, rc', Option.bind_some, zi_9] at e1'
    by_cases hg : bp K b 3 = 1 ∨ ¬ 0 < grz (bp K b) 9 it
    · rw [G1 hg, Option.bind_some, if_pos rfl, if_neg (by decide), f8, Option.bind_some] at e1
      rw [G1' hg, Option.bind_some, if_pos rfl, if_neg (by decide), f8', Option.bind_some] at e1'
      cases e1
      cases e1'
      rfl
    · obtain ⟨gi, ra, g1, -⟩ := G2 (fun q => hg (Or.inl q)) (Classical.byContradiction fun q => hg (Or.inr q))
      obtain ⟨gi', ra', g1', -⟩ := G2' (fun q => hg (Or.inl q)) (Classical.byContradiction fun q => hg (Or.inr q))
      rw [g1, Option.bind_some, if_neg (by simp), if_neg (by decide)] at e1
      rw [g1', Option.bind_some, if_neg (by simp), if_neg (by decide)] at e1'
      cases e1
      cases e1'
      rfl
  rw [ex] at e1'
  obtain ⟨m2, a2, s2, k2, c2, o2⟩ := cl_chain k1 c1 F1 (by rw [List.length_append]; omega) p1
  refine ⟨m2, a2, ?_, k2, by rw [eb, ← List.append_assoc]; exact c2, fun c h1 h2 => (o2 c h1 h2).trans (o1 c h1 h2)⟩
  unfold f_CL_chainPassage_98
  rw [zi_0, e0, Option.bind_some, s1, Option.bind_some, zi_1, e1', Option.bind_some, s2, Option.bind_some]
theorem cl_p68 (h : CHS μ X kc mc pr ads) (hC : ChR φ K ads l) (hF : Fr φ μ) (hX : φ X = none) (hX7 : φ (X + 7) = none) (h5 : LX φ (X + 5) 5) (h6 : LX φ (X + 6) 6) (hl : l.length ≤ 28) (hQ : PR0 φ Q (bp K b) el' n' q') (hB : WB (bp K b)) (hi : 0 ≤ it ∧ it ≤ 3) (ho : bok (bp K b) it) (u : Bool) : ∃ μ' ads', f_CL_chainPassage_68 X μ z w (some Q) (iz it) (iz (bI u)) = some (μ', z, w) ∧ CHS μ' X kc mc pr ads' ∧ ChR φ K ads' (l ++ (cnv u (bp K b) b ++ bck (bp K b) b it)) ∧ ∀ b, b ≠ X → b ≠ X + 7 → μ' b = μ b := by
  have E := xf_e h.1
  unfold f_CL_chainPassage_68 f_CL_chainPassage_95 cnv
  rw [pr_space hQ hF hB, Option.bind_some]
  by_cases e : u = labz (bp K b)
  · obtain ⟨m1, a1, s1, k1, c1, o1⟩ := cl_p98 (z := z) (w := w) h hC hF hX hX7 (by omega) hQ hB hi ho
    refine ⟨m1, a1, ?_, k1, by rw [if_pos e, List.nil_append]; exact c1, o1⟩
    rw [if_pos (bI_eq.mpr e)]
    exact s1
  · rw [if_neg (fun q => e (bI_eq.mp q)), if_neg e]
    have fin : ∀ (y : Nat) (kd : Int), PB φ K (some y) [(kd, b, 0, 0)] → ∃ μ' ads', (((mrc μ (some X) 10).bind fun a => f_CL_chainPiece a μ (some y)).bind fun q13 => f_CL_chainPassage_98 X q13 z w (some Q) (iz it)) = some (μ', z, w) ∧ CHS μ' X kc mc pr ads' ∧ ChR φ K ads' (l ++ ([(kd, b, 0, 0)] ++ bck (bp K b) b it)) ∧ ∀ b, b ≠ X → b ≠ X + 7 → μ' b = μ b := by
      intro y kd hy
      obtain ⟨m1, a1, s1, k1, c1, o1⟩ := cl_chain h hC hF (by omega) hy
      have F1 := hF.put2 hX hX7 o1
      obtain ⟨m2, a2, s2, k2, c2, o2⟩ := cl_p98 (z := z) (w := w) k1 c1 F1 hX hX7 (by rw [List.length_append]; simp; omega) hQ hB hi ho
      refine ⟨m2, a2, ?_, k2, by rw [← List.append_assoc]; exact c2, fun c h1 h2 => (o2 c h1 h2).trans (o1 c h1 h2)⟩
      rw [s1, Option.bind_some]
      exact s2
    cases u with
    | false =>
      rw [if_neg (by decide), if_neg (by decide), E.2.2.2.2.2.2.1, Option.bind_some]
      exact fin (X + 5) 5 (pb_lab h5 b)
    | true =>
      rw [if_pos (by decide), if_pos rfl, E.2.2.2.2.2.2.2.1, Option.bind_some]
      exact fin (X + 6) 6 (pb_xyz h6 b)
theorem cl_passage (h : CHS μ X kc mc pr ads) (hC : ChR φ K ads l) (hF : Fr φ μ) (hX : φ X = none) (hX7 : φ (X + 7) = none) (hXz : X + 8 < z) (h5 : LX φ (X + 5) 5) (h6 : LX φ (X + 6) 6) (hl : l.length ≤ 24) (hP : PR φ P K a el n q) (hQ : PR φ Q K b el' n' q') (hk : POK K a b it bk) (h3 : it = 3 → bk = false) (hz : ∀ c, z ≤ c → μ c = none) : ∃ μ' z' w' φ' ads', ((mrc μ (some X) 10).bind fun a => f_CL_chainPassage a μ z w (some P) (some Q) (iz it) (iz (bI bk))) = some (μ', z', w') ∧ CHS μ' X kc mc pr ads' ∧ ChR φ' K ads' (l ++ psz K a b it bk) ∧ z ≤ z' ∧ z' ≤ z + 1 ∧ w ≤ w' ∧ w' ≤ w + 5 ∧ Fr φ φ' ∧ Fr φ' μ' ∧ (∀ c, c < z → c ≠ X → c ≠ X + 7 → μ' c = μ c) ∧ (∀ c, c < z → φ' c = φ c) ∧ (∀ c, z' ≤ c → μ' c = none) ∧ (∀ c, Sc φ' c → Sc φ c) := by
  have hk' := hk
  obtain ⟨ha, hA, hb, hB, hi, ho, hs, hd⟩ := hk
  obtain ⟨x0, x1, l0, l1, e0, e1, p0, p1, eb⟩ := pr_forth hP.1 hA hF hi
  have fl := fth_len (bp K a) a it
  rw [eb, List.length_append] at fl
  obtain ⟨m1, a1, s1, k1, c1, o1⟩ := cl_chain h hC hF (by omega) p0.pb
  have F1 := hF.put2 hX hX7 o1
  have e1' : ((mrc m1 (some P) 9).bind fun a => f_Profile_forthPiece m1 a (iz it) (iz 1)) = some x1 := by
    obtain ⟨y0, y1, j0, j1, e0', e1', -⟩ := pr_forth hP.1 hA F1 hi
    rw [e1']
    obtain ⟨G1, G2⟩ := pr_grid hP.1 hF (f := 6) (Or.inl rfl) hi (by have := hA.b6; omega)
    obtain ⟨G1', G2'⟩ := pr_grid hP.1 F1 (f := 6) (Or.inl rfl) hi (by have := hA.b6; omega)
    obtain ⟨pl, oa, cu, gr', wa, ba, cf, ef, bb, cb, f, fc, fg, kc', kg, h1, -⟩ := hP.1
    have f8 : mfA μ (some P) [9] 6 = some ef := mfA_i (hF _ _ h1) rfl rfl
    have f8' : mfA m1 (some P) [9] 6 = some ef := mfA_i (F1 _ _ h1) rfl rfl
    have rc : mrc μ (some P) 9 = some P := mrc_i (hF _ _ h1)
    have rc' : mrc m1 (some P) 9 = some P := mrc_i (F1 _ _ h1)
    unfold f_Profile_forthPiece f_Profile_forthPiece_21 f_Profile_forthPiece_37 at e1 e1'
    rw [rc, Option.bind_some, rc, Option.bind_some, zi_6] at e1
    rw [rc', Option.bind_some, rc', Option.bind_some, zi_6] at e1'
    by_cases hg : bp K a 3 = 1 ∨ ¬ 0 < grz (bp K a) 6 it
    · rw [G1 hg, Option.bind_some, if_pos rfl, if_neg (by decide), f8, Option.bind_some] at e1
      rw [G1' hg, Option.bind_some, if_pos rfl, if_neg (by decide), f8', Option.bind_some] at e1'
      rw [← e1, ← e1']
    · obtain ⟨gi, ra, g1, -⟩ := G2 (fun q => hg (Or.inl q)) (Classical.byContradiction fun q => hg (Or.inr q))
      obtain ⟨gi', ra', g1', -⟩ := G2' (fun q => hg (Or.inl q)) (Classical.byContradiction fun q => hg (Or.inr q))
      rw [g1, Option.bind_some, if_neg (by simp), if_neg (by decide)] at e1
      rw [g1', Option.bind_some, if_neg (by simp), if_neg (by decide)] at e1'
      rw [← e1, ← e1']
  obtain ⟨m2, a2, s2, k2, c2, o2⟩ := cl_chain k1 c1 F1 (by rw [List.length_append]; omega) p1.pb
  have F2 := F1.put2 hX hX7 o2
  have hz2 : ∀ c, z ≤ c → m2 c = none := fun c hc => by
    rw [o2 c (by omega) (by omega), o1 c (by omega) (by omega)]
    exact hz c hc
  rw [List.append_assoc, ← eb] at c2
  have fl' := fth_len (bp K a) a it
  obtain ⟨x, m3, z', w', φ', s3, z1, z2, w1, w2, f1, f2, f3, f4, f5, f6, f7, f8⟩ := cl_adj (z := z) (w := w) hk' h3 hP.2 hQ.2 F2 hz2
  have k3 : CHS m3 X kc mc pr a2 := by
    obtain ⟨t1, f, t2, t3⟩ := k2
    exact ⟨(f3 X (by omega)).trans t1, f, (f3 (X + 7) (by omega)).trans t2, t3⟩
  have hX' : φ' X = none := (f4 X (by omega)).trans hX
  have hX7' : φ' (X + 7) = none := (f4 _ (by omega)).trans hX7
  have c3 := c2.mono f1
  have h5' : LX φ' (X + 5) 5 := f1 _ _ h5
  have h6' : LX φ' (X + 6) 6 := f1 _ _ h6
  have lSl : (lS K a b it bk).length ≤ 1 := by
    unfold lS
    split <;> simp
  have bpl := blp_len (bp K a) a
  have tail : ∃ μ' ads', (if x = none then f_CL_chainPassage_68 X m3 z' w' (some Q) (iz it) (iz (bI (labz (bp K a)))) else if iz (bI (labz (bp K a))) = (1 : Int32) then (mfA m3 (some X) [10] 6).bind fun v7 => f_CL_chainPassage_56 X m3 z' w' (some Q) (iz it) x (some X) v7 else f_CL_chainPassage_56 X m3 z' w' (some Q) (iz it) x (some X) none) = some (μ', z', w') ∧ CHS μ' X kc mc pr ads' ∧ ChR φ' K ads' (l ++ psz K a b it bk) ∧ ∀ c, c ≠ X → c ≠ X + 7 → μ' c = m3 c := by
    cases hN : ndz K a b it bk with
    | false =>
      obtain ⟨m4, a4, s4', k4, c4, o4⟩ := cl_p68 (z := z') (w := w') k3 c3 f2 hX' hX7' h5' h6' (by rw [List.length_append]; omega) (hQ.1.mono f1) hB hi ho (labz (bp K a))
      refine ⟨m4, a4, ?_, k4, ?_, o4⟩
      · rw [if_pos (f7.mpr hN)]
        exact s4'
      · unfold psz adj
        rw [hN, if_neg (by decide), List.nil_append, Bool.not_false, Bool.true_and, ← List.append_assoc]
        exact c4
    | true =>
      have hx : x ≠ none := fun q => by
        have := f7.mp q
        rw [hN] at this
        cases this
      rw [if_neg hx]
      have eps : psz K a b it bk = fth (bp K a) a it ++ (blp (bp K a) a ++ (lS K a b it bk ++ (cnv false (bp K b) b ++ bck (bp K b) b it))) := by
        unfold psz adj lS
        rw [hN, if_pos rfl, if_pos rfl, Bool.not_true, Bool.false_and, List.append_assoc]
      have fin : ∀ (y : Option Nat) (ly : List Pz), PB φ' K y ly → ly = blp (bp K a) a → ∃ μ' ads', f_CL_chainPassage_56 X m3 z' w' (some Q) (iz it) x (some X) y = some (μ', z', w') ∧ CHS μ' X kc mc pr ads' ∧ ChR φ' K ads' (l ++ psz K a b it bk) ∧ ∀ c, c ≠ X → c ≠ X + 7 → μ' c = m3 c := by
        intro y ly hy ely
        obtain ⟨m4, a4, s4', k4, c4, o4⟩ := cl_chain k3 c3 f2 (by rw [List.length_append]; omega) hy
        have F4 := f2.put2 hX' hX7' o4
        obtain ⟨m5, a5, s5, k5, c5, o5⟩ := cl_chain k4 c4 F4 (by rw [List.length_append, List.length_append, ely]; omega) f8
        have F5 := F4.put2 hX' hX7' o5
        obtain ⟨m6, a6, s6, k6, c6, o6⟩ := cl_p68 (z := z') (w := w') k5 c5 F5 hX' hX7' h5' h6' (by rw [List.length_append, List.length_append, List.length_append, ely]; omega) (hQ.1.mono f1) hB hi ho false
        refine ⟨m6, a6, ?_, k6, ?_, fun c h1 h2 => (o6 c h1 h2).trans ((o5 c h1 h2).trans (o4 c h1 h2))⟩
        · unfold f_CL_chainPassage_56
          rw [s4', Option.bind_some, s5, Option.bind_some]
          exact s6
        · rw [eps, ← ely]
          rw [List.append_assoc, List.append_assoc, List.append_assoc] at c6
          exact c6
      cases hlb : labz (bp K a) with
      | true =>
        rw [if_pos (by decide), (xf_e k3.1).2.2.2.2.2.2.2.1, Option.bind_some]
        exact fin (some (X + 6)) [(6, a, 0, 0)] (pb_xyz h6' a) (by unfold blp; rw [if_pos (of_decide_eq_true hlb)])
      | false =>
        rw [if_neg (by decide)]
        exact fin none [] po_none.pb (by unfold blp; rw [if_neg (of_decide_eq_false hlb)])
  obtain ⟨m4, a4, s4', k4, c4, o4⟩ := tail
  refine ⟨m4, z', w', φ', a4, ?_, k4, c4, z1, z2, w1, w2, f1, f2.put2 hX' hX7' o4, fun c h1 h2 h3 => ?_, f4, fun c hc => ?_, f6⟩
  · rw [(xf_e h.1).1, Option.bind_some]
    unfold f_CL_chainPassage
    apply mmV_i (Nat.le_refl _) (Nat.le_refl _)
    · rw [zi_0, e0, Option.bind_some, s1, Option.bind_some, zi_1, e1', Option.bind_some, s2, Option.bind_some, pr_space hP.1 F2 hA, Option.bind_some, s3, Option.bind_some]
      exact mmV_i z1 w1 s4' (Nat.le_refl _) (Nat.le_refl _)
    · exact z1
    · exact w1
  · rw [o4 c h2 h3, f3 c h1, o2 c h2 h3, o1 c h2 h3]
  · rw [o4 c (by omega) (by omega)]
    exact f5 c hc
end CPS
