/-! The class's link and extend. -/
def KP (μ : mM) (X np : Nat) (Pa : Nat → Nat) : Prop := ∃ f3, μ (X + 3) = some (.inl (3, 6, .inr (.inr (.inr (.inr f3))))) ∧ ∀ p, p < np → f3 p = some (Pa p)
section LKC
variable {φ μ : mM} {X z w : Nat} {K : Int → Int} {kc mc cc pr : Int32} {np nl : Nat} {G : Nat → Lz} {C : Nat → List Pz} {F : Nat → Int} {Pa Lk : Nat → Nat} {L : Nat → Int64}
theorem cl_profileAt (hx : μ X = some (.inr (10, xF X (nI np) mc cc pr))) (h3 : KP μ X np Pa) (hn : np ≤ 6) {k : Int} (hk : iR k) : ((mrc μ (some X) 10).bind fun a => f_CL_profileAt μ a (iz k)) = some (if 0 ≤ k ∧ k < np then some (Pa k.toNat) else none) := by
  have E := xf_e hx
  obtain ⟨f3, a1, a2⟩ := h3
  rw [E.1, Option.bind_some]
  unfold f_CL_profileAt f_CL_profileAt_21 f_CL_profileAt_22
  by_cases e0 : k < 0
  · rw [zi_0, if_pos ((iz_lt hk (iR_s (by omega) (by omega))).mpr e0), if_neg (by omega)]
  · rw [zi_0, if_neg (fun q => e0 ((iz_lt hk (iR_s (by omega) (by omega))).mp q)), E.2.2.2.1, Option.bind_some, nI_iz]
    by_cases e1 : np ≤ k
    · rw [if_pos ((iz_le (iR_s (by omega) (by omega)) hk).mpr e1), if_neg (by omega)]
    · rw [if_neg (fun q => e1 ((iz_le (iR_s (by omega) (by omega)) hk).mp q)), E.2.2.1, Option.bind_some, iz_nat (by omega), mgA_i (k := 0) a1 (by decide) (by omega) (by decide), Option.bind_some, a2 _ (by omega), if_pos (by omega)]
theorem cl_linkAt {f4 : Nat → Option Nat} (hx : μ X = some (.inr (10, xF X kc (nI nl) cc pr))) (h4 : μ (X + 4) = some (.inl (4, 16, .inr (.inr (.inr (.inr f4)))))) (hf4 : ∀ k, k < nl → f4 k = some (Lk k)) (hn : nl ≤ 16) {k : Int} (hk : iR k) : ((mrc μ (some X) 10).bind fun a => f_CL_linkAt μ a (iz k)) = some (if 0 ≤ k ∧ k < nl then some (Lk k.toNat) else none) := by
  have E := xf_e hx
  rw [E.1, Option.bind_some]
  unfold f_CL_linkAt f_CL_linkAt_21 f_CL_linkAt_22
  by_cases e0 : k < 0
  · rw [zi_0, if_pos ((iz_lt hk (iR_s (by omega) (by omega))).mpr e0), if_neg (by omega)]
  · rw [zi_0, if_neg (fun q => e0 ((iz_lt hk (iR_s (by omega) (by omega))).mp q)), E.2.2.2.2.2.1, Option.bind_some, nI_iz]
    by_cases e1 : nl ≤ k
    · rw [if_pos ((iz_le (iR_s (by omega) (by omega)) hk).mpr e1), if_neg (by omega)]
    · rw [if_neg (fun q => e1 ((iz_le (iR_s (by omega) (by omega)) hk).mp q)), E.2.2.2.2.1, Option.bind_some, iz_nat (by omega), mgA_i (k := 1) h4 (by decide) (by omega) (by decide), Option.bind_some, hf4 _ (by omega), if_pos (by omega)]
/-- what a join leaves -/
def JR (μ φ : mM) (X z w : Nat) (K : Int → Int) (np nl : Nat) (G : Nat → Lz) (C : Nat → List Pz) (F : Nat → Int) (Pa Lk : Nat → Nat) (L : Nat → Int64) (kc pr : Int32) (g : Lz) (μ' : mM) (z' w' : Nat) : Prop := z ≤ z' ∧ z' ≤ z + 3 ∧ w ≤ w' ∧ w' ≤ w + 38 ∧ (∀ c, c < z → c ≠ X → c ≠ X + 4 → c ≠ X + 7 → μ' c = μ c) ∧ (¬ mkB K nl G C g → CK μ' φ X z' K np nl G C F Pa Lk L kc pr) ∧ (mkB K nl G C g → ∃ φ' y, Fr φ φ' ∧ (∀ c, c < z → φ' c = φ c) ∧ (∀ c, Sc φ' c → Sc φ c) ∧ CK μ' φ' X z' K np (nl + 1) (gup G nl g) (gup C nl (chl C g.1 ++ psg K g)) (gup F nl (if g.1 < 0 then g.2.1 else F g.1.toNat)) Pa (gup Lk nl y) (gup L nl (jz (-1))) kc pr)
theorem cl_join (h : CK μ φ X z K np nl G C F Pa Lk L kc pr) {k a b it : Int} {as : Bool} {g : Lz} (hg : g = (k, a, b, it, as && decide (it ≠ 3))) (g1 : -1 ≤ k ∧ k < nl) (g2 : 0 ≤ a ∧ a < np) (g3 : 0 ≤ b ∧ b < np) (g4 : iR it) : ∃ μ' z' w', ((mrc μ (some X) 10).bind fun x => f_CL_join x μ z w (bsz Lk k) (some (Pa a.toNat)) (some (Pa b.toNat)) (iz it) (iz (bI as))) = some (iz (mkA K nl G C g), μ', z', w') ∧ JR μ φ X z w K np nl G C F Pa Lk L kc pr g μ' z' w' := by
  subst hg
  obtain ⟨m1, z1, w1, s1, y1, y2, y3, y4, r⟩ := cl_join26 (w := w) h (g := (k, a, b, it, as && decide (it ≠ 3))) g1 g2 g3 g4 (fun q => by
    have q' : it = 3 := q
    show (as && decide (it ≠ 3)) = false
    rw [decide_eq_false (fun w => w q'), Bool.and_false])
  refine ⟨m1, z1, w1, ?_, y1, y2, y3, y4, r⟩
  obtain ⟨⟨cc, a1⟩, -⟩ := h
  rw [(xf_e a1).1, Option.bind_some]
  unfold f_CL_join f_CL_join_25
  apply mmT_i (Nat.le_refl _) (Nat.le_refl _)
  · rw [if_neg (by simp), if_neg (by simp)]
    cases as with
    | false =>
      rw [if_pos (by decide)]
      exact s1
    | true =>
      rw [if_neg (by decide)]
      by_cases e3 : it = 3
      · rw [zi_3, if_pos (congrArg iz e3)]
        rw [decide_eq_false (fun w => w e3)] at s1 ⊢
        exact s1
      · rw [zi_3, if_neg (fun q => e3 ((iz_eq g4 (iR_s (by omega) (by omega))).mp q))]
        rw [decide_eq_true e3] at s1 ⊢
        exact s1
  · exact y1
  · exact y3
theorem cl_link (h : CK μ φ X z K np nl G C F Pa Lk L (nI np) pr) (h3 : KP μ X np Pa) {a b it : Int} {as : Bool} {g : Lz} (hg : g = (-1, a, b, it, as && decide (it ≠ 3))) (ha : iR a) (hb : iR b) (g4 : iR it) : (¬ ((0 ≤ a ∧ a < np) ∧ 0 ≤ b ∧ b < np) → f_CL_link X μ z w (iz a) (iz b) (iz it) (iz (bI as)) = some (iz (-1), μ, z, w)) ∧ (((0 ≤ a ∧ a < np) ∧ 0 ≤ b ∧ b < np) → ∃ μ' z' w', f_CL_link X μ z w (iz a) (iz b) (iz it) (iz (bI as)) = some (iz (mkA K nl G C g), μ', z', w') ∧ JR μ φ X z w K np nl G C F Pa Lk L (nI np) pr g μ' z' w') := by
  have h' := h
  obtain ⟨⟨cc, a1⟩, -, -, -, -, -, -, -, -, -, -, -, -, -, -, a17, -⟩ := h'
  have E := xf_e a1
  refine ⟨fun q => ?_, fun q => ?_⟩
  · unfold f_CL_link
    apply mmT_i (Nat.le_refl _) (Nat.le_refl _)
    · rw [cl_profileAt a1 h3 a17.2 ha, Option.bind_some, cl_profileAt a1 h3 a17.2 hb, Option.bind_some, E.1, Option.bind_some]
      have j0 : f_CL_join X μ z w none (if 0 ≤ a ∧ a < np then some (Pa a.toNat) else none) (if 0 ≤ b ∧ b < np then some (Pa b.toNat) else none) (iz it) (iz (bI as)) = some (-1, μ, z, w) := by
        unfold f_CL_join f_CL_join_8
        apply mmT_i (Nat.le_refl _) (Nat.le_refl _)
        · by_cases e : 0 ≤ a ∧ a < np
          · rw [if_pos e, if_neg (by simp), if_neg (show ¬ (0 ≤ b ∧ b < np) from fun w => q ⟨e, w⟩), if_pos rfl]
          · rw [if_neg e, if_pos rfl]
        · exact Nat.le_refl _
        · exact Nat.le_refl _
      rw [j0, Option.bind_some]
      exact mmT_i (Nat.le_refl _) (Nat.le_refl _) (by rw [zi_m1]) (Nat.le_refl _) (Nat.le_refl _)
    · exact Nat.le_refl _
    · exact Nat.le_refl _
  · obtain ⟨m1, z1, w1, s1, r⟩ := cl_join (w := w) h hg ⟨by omega, by omega⟩ q.1 q.2 g4
    refine ⟨m1, z1, w1, ?_, r⟩
    have r1 := r.1
    have r3 := r.2.2.1
    unfold f_CL_link
    apply mmT_i (Nat.le_refl _) (Nat.le_refl _)
    · rw [cl_profileAt a1 h3 a17.2 ha, Option.bind_some, cl_profileAt a1 h3 a17.2 hb, Option.bind_some, if_pos q.1, if_pos q.2]
      have s1' : ((mrc μ (some X) 10).bind fun x => f_CL_join x μ z w none (some (Pa a.toNat)) (some (Pa b.toNat)) (iz it) (iz (bI as))) = _ := s1
      rw [s1', Option.bind_some]
      exact mmT_i r1 r3 rfl (Nat.le_refl _) (Nat.le_refl _)
    · exact r1
    · exact r3
end LKC
