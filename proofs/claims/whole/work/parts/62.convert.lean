/-! The class's convert and after. -/
section CVT
variable {φ μ : mM} {X z w : Nat} {K : Int → Int} {kc pr : Int32} {np nl : Nat} {G : Nat → Lz} {C : Nat → List Pz} {F : Nat → Int} {Pa Lk : Nat → Nat} {L : Nat → Int64}
/-- the colour's row and the rests of the grids -/
def CO (μ φ : mM) (X : Nat) : Prop := SOK φ (X + 8) μ ∧ φ (X + 8) = none ∧ (∃ w, CF μ (X + 8) w) ∧ ∀ b, Sc φ b → X + 8 < b
theorem CO.nsc {a ci : Nat} {fs : List Value} (h : CO μ φ X) (ha : μ a = some (.inr (ci, fs))) : ¬ Sc φ a := by
  intro q
  obtain ⟨-, -, w, f, e, -⟩ := h.1 a q
  rw [ha] at e
  cases e
/-- only the colour, rests, and the numbers of X and of one link change -/
theorem CK.run {μ' : mM} {pr' : Int32} {L' : Nat → Int64} (h : CK μ φ X z K np nl G C F Pa Lk L kc pr) (hc : CO μ φ X) (hx : ∀ cc, μ X = some (.inr (10, xF X kc (nI nl) cc pr)) → μ' X = some (.inr (10, xF X kc (nI nl) cc pr'))) (hl : LKS μ' φ K nl G C F Pa Lk L') (ho : ∀ c, c ≠ X + 8 → c ≠ X → (∀ k, k < nl → c ≠ Lk k) → ¬ Sc φ c → μ' c = μ c) (hz : ∀ b, Sc φ b → b < z) : CK μ' φ X z K np nl G C F Pa Lk L' kc pr' := by
  obtain ⟨⟨cc, a1⟩, ⟨f4, a2, a3⟩, ⟨f7, a4⟩, a5, a6, a7, a8, a9, a10, a11, a12, a13, a14, a15, a16, a17, a18, a19⟩ := h
  have big : ∀ c, c < X + 8 → c ≠ X → μ' c = μ c := fun c h1 h2 => ho c (by omega) h2 (fun k hk => by have := a8 k hk; omega) (fun q => by have := hc.2.2.2 c q; omega)
  refine ⟨⟨cc, hx cc a1⟩, ⟨f4, (big _ (by omega) (by omega)).trans a2, a3⟩, ⟨f7, (big _ (by omega) (by omega)).trans a4⟩, hl, a6, a7, a8, fun c e he => ?_, a10, a11, fun c hcz => ?_, a13, a14, a15, a16, a17, a18, a19⟩
  · rw [ho c (fun q => by rw [q, hc.2.1] at he; cases he) (fun q => by rw [q, a10.1] at he; cases he) (fun k hk q => by rw [q, (a8 k hk).2.2] at he; cases he) (fun q => by rw [(hc.1 c q).1] at he; cases he)]
    exact a9 _ _ he
  · rw [ho c (by omega) (by omega) (fun k hk => by have := a8 k hk; omega) (fun q => by have := hz c q; omega)]
    exact a12 c hcz
end CVT
