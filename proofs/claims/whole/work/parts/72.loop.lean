/-! The law's loop. -/
def LPx (z w j : Nat) (o : Option (Int32 × mM × Nat × Nat)) : Prop := ∃ r, o = some r ∧ r.1 = 1 ∧ z ≤ r.2.2.1 ∧ r.2.2.1 ≤ z + 60 * j ∧ w ≤ r.2.2.2 ∧ r.2.2.2 ≤ w + 1000 * j
theorem lp_ite {z w j : Nat} {c : Prop} [Decidable c] {a b : Option (Int32 × mM × Nat × Nat)} (h1 : c → LPx z w j a) (h2 : ¬ c → LPx z w j b) : LPx z w j (if c then a else b) := by
  by_cases q : c
  · rw [if_pos q]; exact h1 q
  · rw [if_neg q]; exact h2 q
theorem lp_up {z w j : Nat} {o : Option (Int32 × mM × Nat × Nat)} (h : LPx z w j o) : LPx z w (j + 1) o := by
  obtain ⟨r, h1, h2, h3, h4, h5, h6⟩ := h
  exact ⟨r, h1, h2, h3, by omega, h5, by omega⟩
theorem lp_mm {z w z1 w1 j : Nat} {o : Option (Int32 × mM × Nat × Nat)} (h : LPx z1 w1 j o) (b : z ≤ z1 ∧ z1 ≤ z + 60 ∧ w ≤ w1 ∧ w1 ≤ w + 1000) : LPx z w (j + 1) (mmT z w z1 w1 o) := by
  obtain ⟨r, h1, h2, h3, h4, h5, h6⟩ := h
  exact ⟨r, mmT_i b.1 b.2.2.1 h1 h3 h5, h2, by omega, by omega, by omega, by omega⟩
theorem mgS_i {L i : Nat} {xs : Nat → Int32} (h : i < L) (hL : L ≤ 3072) : mgS L xs (nI i) = some (xs i) := by
  have e : (nI i).toNatClampNeg = i := nI_clamp (by omega)
  unfold mgS
  rw [if_neg (ng_in h (by omega)), e]
section LOP
variable {L : Nat} {xs : Nat → Int32} {X : Nat}
theorem lw_step (hL : L ≤ 3072) {kx : mM → Nat → Nat → Option (Int32 × mM × Nat × Nat)} {fu i j : Nat} (hi : 6 * i + 6 ≤ L) {μ : mM} {z w : Nat} (h : IN μ X z) (nx : ∀ μ2 z2 w2, IN μ2 X z2 → LPx z2 w2 j (f_Law_law_749 L xs (f_Law_law_18 L xs kx fu) kx μ2 z2 w2 (some X) (some (X + 9)) (nI (6 * i)))) : LPx z w (j + 1) (f_Law_law_18 L xs kx (fu + 1) μ z w (some X) (some (X + 9)) (nI (6 * i))) := by
  have rd : ∀ c : Nat, c < 6 → mgS L xs (nI (6 * i + c)) = some (xs (6 * i + c)) := fun c hc => mgS_i (by omega) hL
  have nadd : ∀ c : Nat, nI (6 * i) + nI c = nI (6 * i + c) := fun c => by
    rw [nI_iz, nI_iz, iz_add, nI_iz]
    congr 1
  have rd0 : mgS L xs (nI (6 * i)) = some (xs (6 * i)) := rd 0 (by omega)
  have rd1 : mgS L xs (nI (6 * i) + (1 : Int32)) = some (xs (6 * i + 1)) := by rw [← rd 1 (by omega), ← nadd 1]; rfl
  have rd2 : mgS L xs (nI (6 * i) + (2 : Int32)) = some (xs (6 * i + 2)) := by rw [← rd 2 (by omega), ← nadd 2]; rfl
  have rd3 : mgS L xs (nI (6 * i) + (3 : Int32)) = some (xs (6 * i + 3)) := by rw [← rd 3 (by omega), ← nadd 3]; rfl
  have rd4 : mgS L xs (nI (6 * i) + (4 : Int32)) = some (xs (6 * i + 4)) := by rw [← rd 4 (by omega), ← nadd 4]; rfl
  have rd5 : mgS L xs (nI (6 * i) + (5 : Int32)) = some (xs (6 * i + 5)) := by rw [← rd 5 (by omega), ← nadd 5]; rfl
  obtain ⟨a1, e1⟩ : ∃ a : Int, xs (6 * i + 1) = iz a ∧ iR a := ⟨_, (iz_of _).symm, iR_of _⟩
  obtain ⟨a2, e2⟩ : ∃ a : Int, xs (6 * i + 2) = iz a ∧ iR a := ⟨_, (iz_of _).symm, iR_of _⟩
  obtain ⟨a3, e3⟩ : ∃ a : Int, xs (6 * i + 3) = iz a ∧ iR a := ⟨_, (iz_of _).symm, iR_of _⟩
  obtain ⟨a4, e4⟩ : ∃ a : Int, xs (6 * i + 4) = iz a ∧ iR a := ⟨_, (iz_of _).symm, iR_of _⟩
  obtain ⟨a5, e5⟩ : ∃ a : Int, xs (6 * i + 5) = iz a ∧ iR a := ⟨_, (iz_of _).symm, iR_of _⟩
  rw [e1.1] at rd1
  rw [e2.1] at rd2
  rw [e3.1] at rd3
  rw [e4.1] at rd4
  rw [e5.1] at rd5
  obtain ⟨rX, rM⟩ := in_rc h
  have ng : ¬ nI L - (6 : Int32) < nI (6 * i) := fun q => by
    rw [nI_iz, nI_iz, zi_6, iz_sub] at q
    have := (iz_lt (iR_s (by omega) (by omega)) (iR_s (by omega) (by omega))).mp q
    omega
  rw [f_Law_law_18, if_neg ng, rd0, Option.bind_some]
  refine lp_ite (fun _ => ?_) (fun _ => lp_ite (fun _ => ?_) (fun _ => lp_ite (fun _ => ?_) (fun _ => lp_ite (fun _ => ?_) (fun _ => lp_ite (fun _ => ?_) (fun _ => lp_ite (fun _ => ?_) (fun _ => lp_ite (fun _ => ?_) (fun _ => lp_ite (fun _ => ?_) (fun _ => lp_ite (fun _ => ?_) (fun _ => lp_ite (fun _ => ?_) (fun _ => lp_ite (fun _ => ?_) (fun _ => lp_ite (fun _ => ?_) (fun _ => lp_ite (fun _ => ?_) (fun _ => lp_ite (fun _ => ?_) (fun _ => lp_ite (fun _ => ?_) (fun _ => lp_ite (fun _ => ?_) (fun _ => lp_ite (fun _ => ?_) (fun _ => lp_ite (fun _ => ?_) (fun _ => lp_ite (fun _ => ?_) (fun _ => ?_)))))))))))))))))))
  · obtain ⟨a, m1, m2, s1, q1, s2, h'⟩ := op_add h (iz a1) e2.2
    simp only [rd1, rd2, Option.bind_some, rX, s1, q1, s2, if_true]
    exact lp_up (nx m2 z w h')
  · obtain ⟨a, m1, m2, s1, q1, s2, h'⟩ := op_set h e1.2 e2.2
    simp only [rd1, rd2, Option.bind_some, rX, s1, q1, s2, if_true]
    exact lp_up (nx m2 z w h')
  · obtain ⟨m1, m2, s1, q1, s2, h'⟩ := op_clear h
    simp only [Option.bind_some, rX, s1, q1, s2]
    exact lp_up (nx m2 z w h')
  · obtain ⟨a, s1, s2⟩ := op_size h
    simp only [Option.bind_some, rX, rM, s1, s2, if_true]
    exact lp_up (nx μ z w h)
  · obtain ⟨a, s1, s2⟩ := op_at h e1.2
    simp only [rd1, Option.bind_some, rX, rM, s1, s2, if_true]
    exact lp_up (nx μ z w h)
  · obtain ⟨a, m1, z1, w1, m2, s1, B, q1, s2, h'⟩ := op_parse (w := w) h
    simp only [Option.bind_some, rX, s1, q1, s2, if_true]
    exact lp_mm (nx m2 z1 w1 h') B
  · obtain ⟨⟨a, s1, s2⟩, -⟩ := op_nums h
    simp only [Option.bind_some, rX, rM, s1, s2, if_true]
    exact lp_up (nx μ z w h)
  · obtain ⟨a, s1, s2⟩ := op_elements h e1.2
    simp only [rd1, Option.bind_some, rX, rM, s1, s2, if_true]
    exact lp_up (nx μ z w h)
  · obtain ⟨a, s1, s2⟩ := op_same h e1.2 e2.2
    simp only [rd1, rd2, Option.bind_some, rX, rM, s1, s2, if_true]
    exact lp_up (nx μ z w h)
  · obtain ⟨a, m1, m2, s1, q1, s2, h'⟩ := op_write h e1.2
    simp only [rd1, Option.bind_some, rX, s1, q1, s2, if_true]
    exact lp_up (nx m2 z w h')
  · unfold f_Law_law_371 f_Law_law_403
    simp only [rd1, rd2, rd3, rd4, Option.bind_some, rX, rM]
    by_cases c : iz a4 = 0
    · obtain ⟨a, s1, s2⟩ := op_curve h e1.2 e2.2 e3.2 false
      rw [show iz (bI false) = (0 : Int32) from rfl] at s1 s2
      simp only [if_pos c, s1, s2, Option.bind_some, if_true]
      exact lp_up (nx μ z w h)
    · obtain ⟨a, s1, s2⟩ := op_curve h e1.2 e2.2 e3.2 true
      rw [show iz (bI true) = (1 : Int32) from rfl] at s1 s2
      simp only [if_neg c, s1, s2, Option.bind_some, if_true]
      exact lp_up (nx μ z w h)
  · unfold f_Law_law_440 f_Law_law_472
    simp only [rd1, rd2, rd3, rd4, Option.bind_some, rX]
    by_cases c : iz a4 = 0
    · obtain ⟨a, m1, z1, w1, m2, s1, B, q1, s2, h'⟩ := op_link (w := w) h e1.2 e2.2 e3.2 false
      rw [show iz (bI false) = (0 : Int32) from rfl] at s1 s2
      simp only [if_pos c, s1, Option.bind_some, q1, s2, if_true]
      exact lp_mm (nx m2 z1 w1 h') B
    · obtain ⟨a, m1, z1, w1, m2, s1, B, q1, s2, h'⟩ := op_link (w := w) h e1.2 e2.2 e3.2 true
      rw [show iz (bI true) = (1 : Int32) from rfl] at s1 s2
      simp only [if_neg c, s1, Option.bind_some, q1, s2, if_true]
      exact lp_mm (nx m2 z1 w1 h') B
  · unfold f_Law_law_509 f_Law_law_541
    simp only [rd1, rd2, rd3, rd4, Option.bind_some, rX]
    by_cases c : iz a4 = 0
    · obtain ⟨a, m1, z1, w1, m2, s1, B, q1, s2, h'⟩ := op_extend (w := w) h e1.2 e2.2 e3.2 false
      rw [show iz (bI false) = (0 : Int32) from rfl] at s1 s2
      simp only [if_pos c, s1, Option.bind_some, q1, s2, if_true]
      exact lp_mm (nx m2 z1 w1 h') B
    · obtain ⟨a, m1, z1, w1, m2, s1, B, q1, s2, h'⟩ := op_extend (w := w) h e1.2 e2.2 e3.2 true
      rw [show iz (bI true) = (1 : Int32) from rfl] at s1 s2
      simp only [if_neg c, s1, Option.bind_some, q1, s2, if_true]
      exact lp_mm (nx m2 z1 w1 h') B
  · obtain ⟨-, ⟨a, s1, s2⟩, -⟩ := op_nums h
    simp only [Option.bind_some, rX, rM, s1, s2, if_true]
    exact lp_up (nx μ z w h)
  · obtain ⟨a, m2, s1, s2, h'⟩ := op_pieces h e1.2
    simp only [rd1, Option.bind_some, rX, rM, s1, s2, if_true]
    exact lp_up (nx m2 z w h')
  · obtain ⟨a, m2, s1, s2, h'⟩ := op_piece h e1.2 e2.2
    simp only [rd1, rd2, Option.bind_some, rX, rM, s1, s2, if_true]
    exact lp_up (nx m2 z w h')
  · obtain ⟨a, m1, m2, s1, q1, s2, h'⟩ := op_convert h e1.2 e2.2 e3.2 e4.2
    simp only [rd1, rd2, rd3, rd4, Option.bind_some, rX, s1, q1, s2, if_true]
    exact lp_up (nx m2 z w h')
  · obtain ⟨a, m1, m2, s1, q1, s2, h'⟩ := op_after h e1.2 e2.2 e3.2 e4.2 e5.2
    simp only [rd1, rd2, rd3, rd4, rd5, Option.bind_some, rX, s1, q1, s2, if_true]
    exact lp_up (nx m2 z w h')
  · obtain ⟨-, -, a, s1, s2⟩ := op_nums h
    simp only [Option.bind_some, rX, rM, s1, s2, if_true]
    exact lp_up (nx μ z w h)
  · exact lp_up (nx μ z w h)
theorem lw_loop (hL : L ≤ 3072) : ∀ (j fu i : Nat) (μ : mM) (z w : Nat), j < fu → i + j = L / 6 → IN μ X z → LPx z w j (f_Law_law_18 L xs (fun μ z w => f_Law_law_755 L xs μ z w) fu μ z w (some X) (some (X + 9)) (nI (6 * i))) := by
  intro j
  induction j with
  | zero =>
    intro fu i μ z w hf hi h
    obtain ⟨fu, rfl⟩ : ∃ m, fu = m + 1 := ⟨fu - 1, by omega⟩
    have ps : nI L - (6 : Int32) < nI (6 * i) := by
      rw [nI_iz, nI_iz, zi_6, iz_sub]
      exact (iz_lt (iR_s (by omega) (by omega)) (iR_s (by omega) (by omega))).mpr (by omega)
    rw [f_Law_law_18, if_pos ps]
    exact ⟨(1, μ, z, w), rfl, rfl, Nat.le_refl _, by show z ≤ z + 60 * 0; omega, Nat.le_refl _, by show w ≤ w + 1000 * 0; omega⟩
  | succ j ih =>
    intro fu i μ z w hf hi h
    obtain ⟨fu, rfl⟩ : ∃ m, fu = m + 1 := ⟨fu - 1, by omega⟩
    refine lw_step hL (by omega) h (fun μ2 z2 w2 h2 => ?_)
    have e := ih fu (i + 1) μ2 z2 w2 (by omega) (by omega) h2
    unfold f_Law_law_749
    have en : nI (6 * i) + (6 : Int32) = nI (6 * (i + 1)) := by
      rw [nI_iz, zi_6, iz_add, nI_iz]
      congr 1
    rw [en]
    exact e
end LOP
