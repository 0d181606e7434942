/-! What holds between the calls of the law. -/
def CI (μ φ : mM) (X z : Nat) (K : Int → Int) (np nl : Nat) (G : Nat → Lz) (C : Nat → List Pz) (F : Nat → Int) (Pa Lk : Nat → Nat) (L : Nat → Int64) (pr : Int32) (n : Nat) (b : Int → Int) : Prop := CK μ φ X z K np nl G C F Pa Lk L (nI np) pr ∧ KP μ X np Pa ∧ CO μ φ X ∧ (∀ c, Sc φ c → X + 25 < c ∧ c < z) ∧ KQ φ np K Pa ∧ (∀ k, k < nl → F k < np) ∧ (φ (X + 1) = none ∧ φ (X + 2) = none ∧ φ (X + 3) = none) ∧ (∀ c, X + 9 ≤ c → c ≤ X + 25 → φ c = none) ∧ (∀ k, k < nl → X + 25 < Lk k) ∧ BU μ X n b ∧ X + 25 < z
def RI (μ : mM) (X : Nat) (A : Nat → Nat → Int32) (S : Nat → Int32) (L : Nat → Int64) (np nl : Nat) (G : Nat → Lz) (pr : Int32) (n : Nat) (b : Int → Int) : Prop := RB μ (X + 9) A S L ∧ KA A ∧ LT A nl G ∧ S 3 = nI np ∧ S 10 = nI nl ∧ S 11 = pr ∧ BA A S n b
def IN (μ : mM) (X z : Nat) : Prop := ∃ φ A S L np nl G C F Pa Lk pr n b, CI μ φ X z (kp A) np nl G C F Pa Lk L pr n b ∧ RI μ X A S L np nl G pr n b ∧ n ≤ 256 ∧ Byt b
section INV
variable {μ φ : mM} {X z : Nat} {K : Int → Int} {np nl : Nat} {G : Nat → Lz} {C : Nat → List Pz} {F : Nat → Int} {Pa Lk : Nat → Nat} {L : Nat → Int64} {pr : Int32} {n : Nat} {b : Int → Int} {A : Nat → Nat → Int32} {S : Nat → Int32}
theorem mo_cg {M : Nat} {J : Nat → Nat → Int64} {μ' : mM} (h : Mo μ M A J S) (e : ∀ j, j ≤ 16 → μ' (M + j) = μ (M + j)) : Mo μ' M A J S := by
  unfold Mo at h ⊢
  have e0 := e 0 (by omega)
  rw [Nat.add_zero] at e0
  rw [e0, e 1 (by omega), e 2 (by omega), e 3 (by omega), e 4 (by omega), e 5 (by omega), e 6 (by omega), e 7 (by omega), e 8 (by omega), e 9 (by omega), e 10 (by omega), e 11 (by omega), e 12 (by omega), e 13 (by omega), e 14 (by omega), e 15 (by omega), e 16 (by omega)]
  exact h
theorem rb_cg {M : Nat} {μ' : mM} (h : RB μ M A S L) (e : ∀ c, M ≤ c → c ≤ M + 16 → μ' c = μ c) : RB μ' M A S L := by
  obtain ⟨A2, v, l, b2, ⟨A', S', o, m, ⟨J, h1, h2⟩, h3⟩, hl⟩ := h
  exact ⟨A2, v, l, b2, ⟨A', S', o, m, ⟨J, mo_cg h1 (fun j hj => e _ (by omega) (by omega)), h2⟩, h3⟩, hl⟩
def RV (φ : mM) (X z nl : Nat) (Lk : Nat → Nat) (c : Nat) : Prop := c = X ∨ c = X + 3 ∨ c = X + 4 ∨ c = X + 7 ∨ c = X + 8 ∨ (∃ k, k < nl ∧ c = Lk k) ∨ φ c ≠ none ∨ z ≤ c ∨ Sc φ c
theorem ci_fr (h : CI μ φ X z K np nl G C F Pa Lk L pr n b) {μ' : mM} (e : ∀ c, RV φ X z nl Lk c → μ' c = μ c) {n' : Nat} {b' : Int → Int} (hU : BU μ' X n' b') : CI μ' φ X z K np nl G C F Pa Lk L pr n' b' := by
  obtain ⟨hK, h2, h3, h4, h5, h6, h7, h8, h9, h10, h11⟩ := h
  obtain ⟨⟨cc, hx⟩, ⟨f4, k4, k4'⟩, ⟨f7, k7⟩, kl, ki, kj, kk, kF, kφ, kX, kf, kr⟩ := hK
  refine ⟨⟨⟨cc, (e X (Or.inl rfl)).trans hx⟩, ⟨f4, (e _ (Or.inr (Or.inr (Or.inl rfl)))).trans k4, k4'⟩, ⟨f7, (e _ (Or.inr (Or.inr (Or.inr (Or.inl rfl))))).trans k7⟩, fun k hk => ?_, ki, kj, kk, fun a q hq => ?_, kφ, kX, fun c hc => ?_, kr⟩, ?_, ⟨fun c hc => ?_, h3.2.1, ?_, h3.2.2.2⟩, h4, h5, h6, h7, h8, h9, hU, h11⟩
  · obtain ⟨row, la, l1, l2⟩ := kl k hk
    exact ⟨row, la, (e _ (Or.inr (Or.inr (Or.inr (Or.inr (Or.inr (Or.inl ⟨k, hk, rfl⟩))))))).trans l1, l2⟩
  · rw [e a (Or.inr (Or.inr (Or.inr (Or.inr (Or.inr (Or.inr (Or.inl (by rw [hq]; exact fun w => by cases w))))))))]
    exact kF _ _ hq
  · rw [e c (Or.inr (Or.inr (Or.inr (Or.inr (Or.inr (Or.inr (Or.inr (Or.inl hc))))))))]
    exact kf c hc
  · obtain ⟨f3, y1, y2⟩ := h2
    exact ⟨f3, (e _ (Or.inr (Or.inl rfl))).trans y1, y2⟩
  · obtain ⟨x1, x2, w, x3⟩ := h3.1 c hc
    exact ⟨x1, x2, w, cf_tr x3 (e c (Or.inr (Or.inr (Or.inr (Or.inr (Or.inr (Or.inr (Or.inr (Or.inr hc)))))))))⟩
  · obtain ⟨w, x⟩ := h3.2.2.1
    exact ⟨w, cf_tr x (e _ (Or.inr (Or.inr (Or.inr (Or.inr (Or.inl rfl))))))⟩
theorem ci_out (h : CI μ φ X z K np nl G C F Pa Lk L pr n b) {μ' : mM} (o : Out (X + 9) μ μ') : CI μ' φ X z K np nl G C F Pa Lk L pr n b := by
  have h4 := h.2.2.2.1
  have h8 := h.2.2.2.2.2.2.2.1
  have h9 := h.2.2.2.2.2.2.2.2.1
  have h10 := h.2.2.2.2.2.2.2.2.2.1
  have h11 := h.2.2.2.2.2.2.2.2.2.2
  refine ci_fr h (fun c hc => o c ?_) (bu_o h10 (o _ (by omega)) (o _ (by omega)))
  rcases hc with q | q | q | q | q | ⟨k, hk, q⟩ | q | q | q
  · omega
  · omega
  · omega
  · omega
  · omega
  · have := h9 k hk; omega
  · by_cases w : X + 9 ≤ c ∧ c ≤ X + 25
    · exact absurd (h8 c w.1 w.2) q
    · omega
  · omega
  · have := h4 c q; omega
theorem ci_buf (h : CI μ φ X z K np nl G C F Pa Lk L pr n b) {μ' : mM} (o : ∀ c, c ≠ X + 1 → c ≠ X + 2 → μ' c = μ c) {n' : Nat} {b' : Int → Int} (hU : BU μ' X n' b') : CI μ' φ X z K np nl G C F Pa Lk L pr n' b' := by
  have h4 := h.2.2.2.1
  have h7 := h.2.2.2.2.2.2.1
  have h9 := h.2.2.2.2.2.2.2.2.1
  have h11 := h.2.2.2.2.2.2.2.2.2.2
  have key : ∀ c, RV φ X z nl Lk c → c ≠ X + 1 ∧ c ≠ X + 2 := by
    intro c hc
    rcases hc with q | q | q | q | q | ⟨k, hk, q⟩ | q | q | q
    · omega
    · omega
    · omega
    · omega
    · omega
    · have := h9 k hk; omega
    · exact ⟨fun w => q (by rw [w]; exact h7.1), fun w => q (by rw [w]; exact h7.2.1)⟩
    · omega
    · have := h4 c q; omega
  exact ci_fr h (fun c hc => o c (key c hc).1 (key c hc).2) hU
theorem ci_X (h : CI μ φ X z K np nl G C F Pa Lk L pr n b) : ∃ cc, μ X = some (.inr (10, xF X (nI np) (nI nl) cc pr)) := h.1.1
theorem ri_cg (h : RI μ X A S L np nl G pr n b) {μ' : mM} (e : ∀ c, X + 9 ≤ c → c ≤ X + 25 → μ' c = μ c) : RI μ' X A S L np nl G pr n b := ⟨rb_cg h.1 (fun c c1 c2 => e c c1 (by omega)), h.2⟩
theorem in_rc (h : IN μ X z) : mrc μ (some X) 10 = some X ∧ mrc μ (some (X + 9)) 11 = some (X + 9) := by
  obtain ⟨φ, A, S, L, np, nl, G, C, F, Pa, Lk, pr, n, b, h1, h2, -⟩ := h
  obtain ⟨cc, hx⟩ := ci_X h1
  exact ⟨(xf_e hx).1, rb_rc h2.1⟩
end INV
section OPS
variable {μ : mM} {X z : Nat}
theorem op_add (h : IN μ X z) (x : Int32) {k : Int} (hk : iR k) : ∃ a μ1 μ2, f_CL_add X μ x (iz k) = some (a, μ1) ∧ mrc μ1 (some (X + 9)) 11 = some (X + 9) ∧ f_Mo_add (X + 9) μ1 x (iz k) = some (a, μ2) ∧ IN μ2 X z := by
  obtain ⟨φ, A, S, L, np, nl, G, C, F, Pa, Lk, pr, n, b, h1, h2, hn, hb⟩ := h
  obtain ⟨cc, hx⟩ := ci_X h1
  have hU := h1.2.2.2.2.2.2.2.2.2.1
  obtain ⟨r1, r2, r3, r4, r5, r6, r7⟩ := h2
  obtain ⟨a1, a2⟩ := cl_add hx hU hn x hk
  by_cases c : adO n k
  · obtain ⟨m1, s1, u1, o1⟩ := a1 c
    have R1 := rb_cg r1 (μ' := m1) (fun c c1 _ => o1 c (by omega) (by omega))
    obtain ⟨m2, A2, S2, s2, R2, b2, x2, y2, o2⟩ := (rb_add R1 r7 hn x hk).1 c
    refine ⟨1, m1, m2, s1, rb_rc R1, s2, φ, A2, S2, L, np, nl, G, C, F, Pa, Lk, pr, _, _, ?_, ⟨R2, sX_KA x2 r2, sX_LT x2 r3, (y2 3 (by decide)).trans r4, (y2 10 (by decide)).trans r5, (y2 11 (by decide)).trans r6, b2⟩, by have := c.1; have := c.2.2; omega, apb_R _ _ _ _ hb⟩
    rw [sX_kp x2]
    exact ci_out (ci_buf h1 o1 u1) o2
  · refine ⟨0, μ, μ, a2 c, rb_rc r1, (rb_add r1 r7 hn x hk).2 c, φ, A, S, L, np, nl, G, C, F, Pa, Lk, pr, n, b, h1, ⟨r1, r2, r3, r4, r5, r6, r7⟩, hn, hb⟩
theorem op_set (h : IN μ X z) {p v : Int} (hp : iR p) (hv : iR v) : ∃ a μ1 μ2, f_CL_set X μ (iz p) (iz v) = some (a, μ1) ∧ mrc μ1 (some (X + 9)) 11 = some (X + 9) ∧ f_Mo_set (X + 9) μ1 (iz p) (iz v) = some (a, μ2) ∧ IN μ2 X z := by
  obtain ⟨φ, A, S, L, np, nl, G, C, F, Pa, Lk, pr, n, b, h1, h2, hn, hb⟩ := h
  obtain ⟨cc, hx⟩ := ci_X h1
  have hU := h1.2.2.2.2.2.2.2.2.2.1
  obtain ⟨r1, r2, r3, r4, r5, r6, r7⟩ := h2
  obtain ⟨a1, a2⟩ := cl_set hx hU hn hp hv
  by_cases c : seO n p v
  · obtain ⟨m1, s1, u1, o1⟩ := a1 c
    have R1 := rb_cg r1 (μ' := m1) (fun c c1 _ => o1 c (by omega))
    obtain ⟨m2, A2, s2, R2, b2, x2, o2⟩ := (rb_set R1 r7 hn hp hv).1 c
    refine ⟨1, m1, m2, s1, rb_rc R1, s2, φ, A2, S, L, np, nl, G, C, F, Pa, Lk, pr, _, _, ?_, ⟨R2, sX_KA x2 r2, sX_LT x2 r3, r4, r5, r6, b2⟩, hn, fun i => ?_⟩
    · rw [sX_kp x2]
      exact ci_out (ci_buf h1 (fun c _ c2 => o1 c c2) u1) o2
    · unfold zu
      split
      · have := c.2; omega
      · exact hb i
  · refine ⟨0, μ, μ, a2 c, rb_rc r1, (rb_set r1 r7 hn hp hv).2 c, φ, A, S, L, np, nl, G, C, F, Pa, Lk, pr, n, b, h1, ⟨r1, r2, r3, r4, r5, r6, r7⟩, hn, hb⟩
theorem op_clear (h : IN μ X z) : ∃ μ1 μ2, f_CL_clear X μ = some μ1 ∧ mrc μ1 (some (X + 9)) 11 = some (X + 9) ∧ f_Mo_clear (X + 9) μ1 = some μ2 ∧ IN μ2 X z := by
  obtain ⟨φ, A, S, L, np, nl, G, C, F, Pa, Lk, pr, n, b, h1, h2, hn, hb⟩ := h
  obtain ⟨cc, hx⟩ := ci_X h1
  have hU := h1.2.2.2.2.2.2.2.2.2.1
  obtain ⟨r1, r2, r3, r4, r5, r6, r7⟩ := h2
  obtain ⟨m1, s1, u1, o1⟩ := cl_clear hx hU
  have R1 := rb_cg r1 (μ' := m1) (fun c c1 _ => o1 c (by omega))
  obtain ⟨m2, S2, s2, R2, b2, y2, o2⟩ := rb_clear R1 b
  exact ⟨m1, m2, s1, rb_rc R1, s2, φ, A, S2, L, np, nl, G, C, F, Pa, Lk, pr, 0, b, ci_out (ci_buf h1 (fun c c1 _ => o1 c c1) u1) o2, ⟨R2, r2, r3, (y2 3 (by decide)).trans r4, (y2 10 (by decide)).trans r5, (y2 11 (by decide)).trans r6, b2⟩, by omega, hb⟩
theorem op_size (h : IN μ X z) : ∃ a, f_CL_size μ X = some a ∧ f_Mo_size μ (X + 9) = some a := by
  obtain ⟨φ, A, S, L, np, nl, G, C, F, Pa, Lk, pr, n, b, h1, h2, hn, hb⟩ := h
  obtain ⟨cc, hx⟩ := ci_X h1
  exact ⟨_, cl_size hx h1.2.2.2.2.2.2.2.2.2.1, rb_size h2.1 h2.2.2.2.2.2.2⟩
theorem op_at (h : IN μ X z) {p : Int} (hp : iR p) : ∃ a, f_CL_at μ X (iz p) = some a ∧ f_Mo_at μ (X + 9) (iz p) = some a := by
  obtain ⟨φ, A, S, L, np, nl, G, C, F, Pa, Lk, pr, n, b, h1, h2, hn, hb⟩ := h
  obtain ⟨cc, hx⟩ := ci_X h1
  exact ⟨_, cl_at hx h1.2.2.2.2.2.2.2.2.2.1 hn hp, rb_at h2.1 h2.2.2.2.2.2.2 hn hp⟩
theorem op_nums (h : IN μ X z) : (∃ a, f_CL_profiles μ X = some a ∧ f_Mo_profiles μ (X + 9) = some a) ∧ (∃ a, f_CL_links μ X = some a ∧ f_Mo_links μ (X + 9) = some a) ∧ ∃ a, f_CL_work μ X = some a ∧ f_Mo_work μ (X + 9) = some a := by
  obtain ⟨φ, A, S, L, np, nl, G, C, F, Pa, Lk, pr, n, b, h1, h2, hn, hb⟩ := h
  obtain ⟨cc, hx⟩ := ci_X h1
  obtain ⟨r1, r2, r3, r4, r5, r6, r7⟩ := h2
  have E := xf_e hx
  have R := rb_S r1
  refine ⟨⟨nI np, ?_, ?_⟩, ⟨nI nl, ?_, ?_⟩, ⟨pr, ?_, ?_⟩⟩
  · unfold f_CL_profiles
    rw [E.2.2.2.1]
    rfl
  · unfold f_Mo_profiles
    rw [R.2.1, r4]
    rfl
  · unfold f_CL_links
    rw [E.2.2.2.2.2.1]
    rfl
  · unfold f_Mo_links
    rw [R.1, r5]
    rfl
  · unfold f_CL_work
    rw [E.2.2.2.2.2.2.2.2.2.2.2]
    rfl
  · unfold f_Mo_work
    rw [R.2.2.1, r6]
    rfl
theorem op_elements (h : IN μ X z) {p : Int} (hp : iR p) : ∃ a, f_CL_elements μ X (iz p) = some a ∧ f_Mo_elements μ (X + 9) (iz p) = some a := by
  obtain ⟨φ, A, S, L, np, nl, G, C, F, Pa, Lk, pr, n, b, h1, h2, hn, hb⟩ := h
  obtain ⟨cc, hx⟩ := ci_X h1
  obtain ⟨r1, r2, r3, r4, r5, r6, r7⟩ := h2
  obtain ⟨hK, h2, h3, h4, h5, -⟩ := h1
  have hnp := hK.2.2.2.2.2.2.2.2.2.2.2.2.2.2.2.1.2
  have hF := hK.2.2.2.2.2.2.2.1
  exact ⟨_, cl_elements hx h2 hnp hF h5 hp, rm_el r1 r2 r4 hnp (fun p hp => (h5 p hp).2) hp⟩
theorem op_same (h : IN μ X z) {p q : Int} (hp : iR p) (hq : iR q) : ∃ a, f_CL_same μ X (iz p) (iz q) = some a ∧ f_Mo_same μ (X + 9) (iz p) (iz q) = some a := by
  obtain ⟨φ, A, S, L, np, nl, G, C, F, Pa, Lk, pr, n, b, h1, h2, hn, hb⟩ := h
  obtain ⟨cc, hx⟩ := ci_X h1
  obtain ⟨r1, r2, r3, r4, r5, r6, r7⟩ := h2
  obtain ⟨hK, h2, h3, h4, h5, -⟩ := h1
  have hnp := hK.2.2.2.2.2.2.2.2.2.2.2.2.2.2.2.1.2
  have hF := hK.2.2.2.2.2.2.2.1
  exact ⟨_, cl_same hx h2 hnp hF h5 (fun p _ => bp_B r2 p) hp hq, rm_same r1 r2 r4 hnp (fun p hp => (h5 p hp).2) hp hq⟩
theorem op_write (h : IN μ X z) {p : Int} (hp : iR p) : ∃ a μ1 μ2, f_CL_write X μ (iz p) = some (a, μ1) ∧ mrc μ1 (some (X + 9)) 11 = some (X + 9) ∧ f_Mo_write (X + 9) μ1 (iz p) = some (a, μ2) ∧ IN μ2 X z := by
  obtain ⟨φ, A, S, L, np, nl, G, C, F, Pa, Lk, pr, n, b, h1, h2, hn, hb⟩ := h
  obtain ⟨cc, hx⟩ := ci_X h1
  have hU := h1.2.2.2.2.2.2.2.2.2.1
  obtain ⟨r1, r2, r3, r4, r5, r6, r7⟩ := h2
  have hK := h1.1
  have hnp := hK.2.2.2.2.2.2.2.2.2.2.2.2.2.2.2.1.2
  have hF := hK.2.2.2.2.2.2.2.1
  have kφ := hK.2.2.2.2.2.2.2.2.1
  have h5 := h1.2.2.2.2.1
  have h7 := h1.2.2.2.2.2.2.1
  obtain ⟨a1, a2⟩ := cl_write hx h1.2.1 hnp hF ⟨kφ.1, h7.1, h7.2.1⟩ h5 (fun p _ => bp_B r2 p) hU hp
  by_cases c : 0 ≤ p ∧ p < np
  · obtain ⟨m1, s1, u1, o1⟩ := a2 c
    have R1 := rb_cg r1 (μ' := m1) (fun c c1 _ => o1 c (by omega) (by omega))
    obtain ⟨m2, A2, S2, s2, R2, b2, x2, y2, o2⟩ := (rm_write R1 r2 r4 hnp (fun p hp => (h5 p hp).2) hp).2 c
    obtain ⟨-, n', n1, n2⟩ := h5 p.toNat (by omega)
    rw [Int.toNat_of_nonneg c.1] at n2
    have hN := pl_n n2 n1 (bp_B r2 p)
    refine ⟨_, m1, m2, s1, rb_rc R1, s2, φ, A2, S2, L, np, nl, G, C, F, Pa, Lk, pr, _, _, ?_, ⟨R2, sX_KA x2 r2, sX_LT x2 r3, (y2 3 (by decide)).trans r4, (y2 10 (by decide)).trans r5, (y2 11 (by decide)).trans r6, b2⟩, by omega, plq_R n2 n1 (bp_B r2 p)⟩
    rw [sX_kp x2]
    exact ci_out (ci_buf h1 o1 u1) o2
  · refine ⟨_, μ, μ, a1 c, rb_rc r1, (rm_write r1 r2 r4 hnp (fun p hp => (h5 p hp).2) hp).1 c, φ, A, S, L, np, nl, G, C, F, Pa, Lk, pr, n, b, h1, ⟨r1, r2, r3, r4, r5, r6, r7⟩, hn, hb⟩
theorem op_curve (h : IN μ X z) {p s x : Int} (ip : iR p) (is : iR s) (ix : iR x) (iv : Bool) : ∃ a, f_CL_curve μ X (iz p) (iz s) (iz x) (iz (bI iv)) = some a ∧ f_Mo_curve μ (X + 9) (iz p) (iz s) (iz x) (iz (bI iv)) = some a := by
  obtain ⟨φ, A, S, L, np, nl, G, C, F, Pa, Lk, pr, n, b, h1, h2, hn, hb⟩ := h
  obtain ⟨cc, hx⟩ := ci_X h1
  obtain ⟨r1, r2, r3, r4, r5, r6, r7⟩ := h2
  obtain ⟨hK, h2, -⟩ := h1
  have hnp := hK.2.2.2.2.2.2.2.2.2.2.2.2.2.2.2.1.2
  have hF := hK.2.2.2.2.2.2.2.1
  have hP := hK.2.2.2.2.2.2.2.2.2.2.2.2.1
  have hW := hK.2.2.2.2.2.2.2.2.2.2.2.2.2.1
  exact ⟨_, cl_curve hx h2 hnp hF hP hW ip is ix iv, rb_curve r1 r2 r4 hnp hW ip is ix iv⟩
end OPS
