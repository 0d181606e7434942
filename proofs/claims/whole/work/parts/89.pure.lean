/-! What is left: the pure functions' answer. -/
theorem pure_law (L : Nat) (xs : Nat → Int32) (z : Nat) (hL : L ≤ 3072) : ∃ r, f_Law_law L xs (fun _ => none) z 0 = some r ∧ r.1 = 1 ∧ r.2.2.1 - z ≤ 600000 ∧ r.2.2.2 - 0 ≤ 7302250 := by
  sorry
