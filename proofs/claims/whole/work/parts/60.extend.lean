/-! The class's extend, pieces and piece. -/
section EXT
variable {φ μ : mM} {X z w : Nat} {K : Int → Int} {kc pr : Int32} {np nl : Nat} {G : Nat → Lz} {C : Nat → List Pz} {F : Nat → Int} {Pa Lk : Nat → Nat} {L : Nat → Int64}
theorem cl_extend (h : CK μ φ X z K np nl G C F Pa Lk L (nI np) pr) (h3 : KP μ X np Pa) {k b it : Int} {as : Bool} {g : Lz} (hg : g = (k, (G k.toNat).2.2.1, b, it, as && decide (it ≠ 3))) (hk : iR k) (hb : iR b) (g4 : iR it) : (¬ ((0 ≤ k ∧ k < nl) ∧ 0 ≤ b ∧ b < np) → f_CL_extend X μ z w (iz k) (iz b) (iz it) (iz (bI as)) = some (iz (-1), μ, z, w)) ∧ (((0 ≤ k ∧ k < nl) ∧ 0 ≤ b ∧ b < np) → ∃ μ' z' w', f_CL_extend X μ z w (iz k) (iz b) (iz it) (iz (bI as)) = some (iz (mkA K nl G C g), μ', z', w') ∧ JR μ φ X z w K np nl G C F Pa Lk L (nI np) pr g μ' z' w') := by
  have h' := h
  obtain ⟨⟨cc, a1⟩, ⟨f4, a2, a3⟩, -, a5, -, -, -, -, -, -, -, -, -, -, a16, a17, -⟩ := h'
  have E := xf_e a1
  refine ⟨fun q => ?_, fun q => ?_⟩
  · unfold f_CL_extend f_CL_extend_35
    apply mmT_i (Nat.le_refl _) (Nat.le_refl _)
    · rw [cl_linkAt a1 a2 a3 a17.1 hk, Option.bind_some]
      by_cases e : 0 ≤ k ∧ k < nl
      · obtain ⟨row, la, l1, -⟩ := a5 k.toNat (by omega)
        rw [if_pos e, if_neg (by simp), (lk_e l1).2.2.2.1, Option.bind_some, cl_profileAt a1 h3 a17.2 hb, Option.bind_some, if_neg (show ¬ (0 ≤ b ∧ b < np) from fun w => q ⟨e, w⟩), E.1, Option.bind_some]
        have j0 : ∀ x y, f_CL_join X μ z w x y none (iz it) (iz (bI as)) = some (-1, μ, z, w) := by
          intro x y
          unfold f_CL_join f_CL_join_8
          apply mmT_i (Nat.le_refl _) (Nat.le_refl _)
          · by_cases ey : y = none
            · rw [if_pos ey]
            · rw [if_neg ey, if_pos rfl]
          · exact Nat.le_refl _
          · exact Nat.le_refl _
        rw [j0, Option.bind_some]
        exact mmT_i (Nat.le_refl _) (Nat.le_refl _) (by rw [zi_m1]) (Nat.le_refl _) (Nat.le_refl _)
      · rw [if_neg e, if_pos rfl, zi_m1]
    · exact Nat.le_refl _
    · exact Nat.le_refl _
  · have h16 := a16 k.toNat (by omega)
    obtain ⟨m1, z1, w1, s1, r⟩ := cl_join (w := w) h hg ⟨by omega, q.1.2⟩ h16.2.2.2.1 q.2 g4
    refine ⟨m1, z1, w1, ?_, r⟩
    have r1 := r.1
    have r3 := r.2.2.1
    obtain ⟨row, la, l1, -⟩ := a5 k.toNat (by omega)
    have ebs : bsz Lk k = some (Lk k.toNat) := if_neg (by omega)
    rw [ebs] at s1
    unfold f_CL_extend f_CL_extend_35
    apply mmT_i (Nat.le_refl _) (Nat.le_refl _)
    · rw [cl_linkAt a1 a2 a3 a17.1 hk, Option.bind_some, if_pos q.1, if_neg (by simp), (lk_e l1).2.2.2.1, Option.bind_some, cl_profileAt a1 h3 a17.2 hb, Option.bind_some, if_pos q.2, s1, Option.bind_some]
      exact mmT_i r1 r3 rfl (Nat.le_refl _) (Nat.le_refl _)
    · exact r1
    · exact r3
theorem cl_pieces (h : CK μ φ X z K np nl G C F Pa Lk L kc pr) {k : Int} (hk : iR k) : f_CL_pieces μ X (iz k) = some (iz (if 0 ≤ k ∧ k < nl then ((C k.toNat).length : Int) else -1)) := by
  obtain ⟨⟨cc, a1⟩, ⟨f4, a2, a3⟩, -, a5, -, -, -, a9, -, -, -, -, -, -, a16, a17, -⟩ := h
  unfold f_CL_pieces f_CL_pieces_19
  rw [cl_linkAt a1 a2 a3 a17.1 hk, Option.bind_some]
  by_cases e : 0 ≤ k ∧ k < nl
  · obtain ⟨row, la, l1, ⟨f, l2, -⟩, -⟩ := a5 k.toNat (by omega)
    rw [if_pos e, if_neg (by simp), (lk_e l1).2.2.2.2.2.2.2.1, Option.bind_some, ml_i (a9 _ _ l2) (by decide), Option.bind_some, if_pos e, nI_iz]
  · rw [if_neg e, if_pos rfl, if_neg e, zi_m1]
theorem cl_piece (h : CK μ φ X z K np nl G C F Pa Lk L kc pr) {k j : Int} (hk : iR k) (hj : iR j) : f_CL_piece μ X (iz k) (iz j) = some (iz (if 0 ≤ k ∧ k < nl ∧ 0 ≤ j then (match (C k.toNat)[j.toNat]? with | some q => q.1 | none => -1) else -1)) := by
  obtain ⟨⟨cc, a1⟩, ⟨f4, a2, a3⟩, -, a5, -, -, -, a9, -, -, -, -, -, -, a16, a17, a18, -⟩ := h
  unfold f_CL_piece f_CL_piece_23
  rw [cl_linkAt a1 a2 a3 a17.1 hk, Option.bind_some]
  by_cases e : 0 ≤ k ∧ k < nl
  · obtain ⟨row, la, l1, ⟨f, l2, l3⟩, -⟩ := a5 k.toNat (by omega)
    obtain ⟨-, cl, -⟩ := a18 k.toNat (by omega)
    rw [if_pos e, if_neg (by simp)]
    by_cases j0 : j < 0
    · rw [zi_0, if_pos ((iz_lt hj (iR_s (by omega) (by omega))).mpr j0), if_neg (show ¬ (0 ≤ k ∧ k < nl ∧ 0 ≤ j) by omega), zi_m1]
    · rw [zi_0, if_neg (fun q => j0 ((iz_lt hj (iR_s (by omega) (by omega))).mp q)), (lk_e l1).2.2.2.2.2.2.2.1, Option.bind_some, ml_i (a9 _ _ l2) (by decide), Option.bind_some, nI_iz, if_pos (show 0 ≤ k ∧ k < nl ∧ 0 ≤ j by omega)]
      change (if iz j < iz ((C k.toNat).length : Int) then _ else _) = _
      by_cases j1 : j < (C k.toNat).length
      · have hjl : j.toNat < (C k.toNat).length := by omega
        have hq := List.getElem?_eq_getElem hjl
        obtain ⟨a, b1, b2, b3⟩ := l3 _ _ hq
        obtain ⟨ci, fs, d1, d2, d3⟩ := b2.1
        rw [if_pos ((iz_lt hj (iR_s (by omega) (by omega))).mpr j1), Option.bind_some, iz_nat (by omega : 0 ≤ j), mgA_i (k := 2) (a9 _ _ l2) (by decide) hjl (by omega), Option.bind_some, b1, mfI_i (a9 _ _ d1) d3 d2, Option.bind_some, hq]
      · rw [if_neg (fun q => j1 ((iz_lt hj (iR_s (by omega) (by omega))).mp q)), List.getElem?_eq_none (by omega), zi_m1]
  · rw [if_neg e, if_pos rfl, if_neg (show ¬ (0 ≤ k ∧ k < nl ∧ 0 ≤ j) by omega), zi_m1]
end EXT
