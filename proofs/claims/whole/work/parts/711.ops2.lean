/-! The calls of the law: convert, after. -/
section OPU
variable {μ : mM} {X z : Nat}
theorem cl_noLink {φ : mM} {K : Int → Int} {np nl : Nat} {G : Nat → Lz} {C : Nat → List Pz} {F : Nat → Int} {Pa Lk : Nat → Nat} {L : Nat → Int64} {kc pr : Int32} (h : CK μ φ X z K np nl G C F Pa Lk L kc pr) {k : Int} (hk : iR k) (c : ¬ (0 ≤ k ∧ k < nl)) : ((mrc μ (some X) 10).bind fun a => f_CL_linkAt μ a (iz k)) = some none := by
  obtain ⟨⟨cc, hx⟩, ⟨f4, k4, k4'⟩, hr⟩ := h
  have kn := hr.2.2.2.2.2.2.2.2.2.2.2.2.2.1
  rw [cl_linkAt hx k4 k4' kn.1 hk, if_neg c]
theorem rb_noLink {A : Nat → Nat → Int32} {S : Nat → Int32} {L : Nat → Int64} {M nl : Nat} (h : RB μ M A S L) (hS : S 10 = nI nl) (hn : nl ≤ 16) {k : Int} (hk : iR k) (c : ¬ (0 ≤ k ∧ k < nl)) (x2 x3 x4 : Int32) : ((mrc μ (some M) 11).bind fun a => f_Mo_taken a μ (iz k) x2 x3 x4) = some (0, μ) := by
  rw [rb_rc h, Option.bind_some]
  unfold f_Mo_taken
  rw [rb_linked h hS hn hk, Option.bind_some, qbI, decide_eq_false c, if_neg (by decide)]
theorem op_convert (h : IN μ X z) {k a b' c' : Int} (hk : iR k) (ha : iR a) (hb' : iR b') (hc' : iR c') : ∃ v μ1 μ2, f_CL_convert X μ (iz k) (iz a) (iz b') (iz c') = some (v, μ1) ∧ mrc μ1 (some (X + 9)) 11 = some (X + 9) ∧ f_Mo_convert (X + 9) μ1 (iz k) (iz a) (iz b') (iz c') = some (v, μ2) ∧ IN μ2 X z := by
  obtain ⟨φ, A, S, L, np, nl, G, C, F, Pa, Lk, pr, n, b, h1, h2, hn, hb⟩ := h
  have h1' := h1
  have h2' := h2
  obtain ⟨r1, r2, r3, r4, r5, r6, r7⟩ := h2
  obtain ⟨k1, k2, k3, k4, k5, k6, k7, k8, k9, k10, k11⟩ := h1
  have kC := k1.2.2.2.2.2.2.2.2.2.2.2.2.2.2.2.2.1
  have kS := k1.2.2.2.2.2.2.2.2.2.2.2.2.2.2.2.2.2
  by_cases c : 0 ≤ k ∧ k < nl
  · obtain ⟨j, rfl⟩ : ∃ j : Nat, k = (j : Int) := ⟨k.toNat, by omega⟩
    have hj : j < nl := by omega
    have ns : ∀ d, d ≤ X + 25 → ¬ Sc φ d := fun d hd q => by have := k4 d q; omega
    obtain ⟨a1, a2⟩ := cl_convert k1 k3 (fun d hd => (k4 d hd).2) k6 hj ha hb' hc' (t := tcl (gyz (kp A) (F j)) a b' c') rfl
    rw [← nI_iz j]
    cases ct : tok (gyz (kp A) (F j)) a b' c'
    · obtain ⟨m1, s1, C1, o1⟩ := a1 ct
      have R1 := rb_cg r1 (μ' := m1) (fun d d1 d2 => o1 d (by omega) (ns d (by omega)))
      obtain ⟨m2, s2, R2, o2⟩ := (rb_convert R1 r2 r3 kC kS r5 hj ha hb' hc').1 ct
      have K1 : CK m1 φ X z (kp A) np nl G C F Pa Lk L (nI np) pr := CK.run k1 k3 (fun cc hx => (o1 X (by omega) (ns X (by omega))).trans hx) (fun q hq => by
        obtain ⟨row, la, l1, l2⟩ := k1.2.2.2.1 q hq
        exact ⟨row, la, (o1 _ (by have := k9 q hq; omega) (sc_lnk k3 l1)).trans l1, l2⟩) (fun d d1 d2 d3 d4 => o1 d d1 d4) (fun d hd => (k4 d hd).2)
      refine ⟨_, m1, m2, s1, rb_rc R1, s2, φ, A, S, L, np, nl, G, C, F, Pa, Lk, pr, n, b, ?_, ⟨R2, r2, r3, r4, r5, r6, r7⟩, hn, hb⟩
      refine ci_out (μ := m1) ⟨K1, ?_, C1, k4, k5, k6, k7, k8, k9, bu_o k10 (o1 _ (by omega) (ns _ (by omega))) (o1 _ (by omega) (ns _ (by omega))), k11⟩ o2
      obtain ⟨f3, y1, y2⟩ := k2
      exact ⟨f3, (o1 _ (by omega) (ns _ (by omega))).trans y1, y2⟩
    · obtain ⟨m1, s1, C1, K1, o1⟩ := a2 ct
      have lk := k9 j hj
      have R1 := rb_cg r1 (μ' := m1) (fun d d1 d2 => o1 d (by omega) (by omega) (by omega) (ns d (by omega)))
      obtain ⟨m2, s2, R2, o2⟩ := (rb_convert R1 r2 r3 kC kS r5 hj ha hb' hc').2 ct
      refine ⟨_, m1, m2, s1, rb_rc R1, s2, φ, A, _, _, np, nl, G, C, F, Pa, Lk, (if L j = jz (pk (tcl (gyz (kp A) (F j)) a b' c')) then pr else pr + nI (C j).length), n, b, ?_, ⟨R2, r2, r3, by simpa [va_up] using r4, by simpa [va_up] using r5, by simp [va_up, r6], ⟨by simpa [va_up] using r7.1, r7.2⟩⟩, hn, hb⟩
      have eL : vp_updL L j (jz (pk (tcl (gyz (kp A) (F j)) a b' c'))) = gup L j (jz (pk (tcl (gyz (kp A) (F j)) a b' c'))) := rfl
      rw [eL]
      refine ci_out (μ := m1) ⟨K1, ?_, C1, k4, k5, k6, k7, k8, k9, bu_o k10 (o1 _ (by omega) (by omega) (by omega) (ns _ (by omega))) (o1 _ (by omega) (by omega) (by omega) (ns _ (by omega))), k11⟩ o2
      obtain ⟨f3, y1, y2⟩ := k2
      exact ⟨f3, (o1 _ (by omega) (by omega) (by omega) (ns _ (by omega))).trans y1, y2⟩
  · refine ⟨-1, μ, μ, ?_, rb_rc r1, ?_, φ, A, S, L, np, nl, G, C, F, Pa, Lk, pr, n, b, h1', h2', hn, hb⟩
    · unfold f_CL_convert f_CL_convert_25
      rw [cl_noLink k1 hk c, Option.bind_some, if_pos rfl]
    · unfold f_Mo_convert
      rw [rb_noLink r1 r5 r3.1 hk c, Option.bind_some, if_pos rfl]
theorem op_after (h : IN μ X z) {k q a b' c' : Int} (hk : iR k) (hq : iR q) (ha : iR a) (hb' : iR b') (hc' : iR c') : ∃ v μ1 μ2, f_CL_after X μ (iz k) (iz q) (iz a) (iz b') (iz c') = some (v, μ1) ∧ mrc μ1 (some (X + 9)) 11 = some (X + 9) ∧ f_Mo_after (X + 9) μ1 (iz k) (iz q) (iz a) (iz b') (iz c') = some (v, μ2) ∧ IN μ2 X z := by
  obtain ⟨φ, A, S, L, np, nl, G, C, F, Pa, Lk, pr, n, b, h1, h2, hn, hb⟩ := h
  have h1' := h1
  have h2' := h2
  obtain ⟨r1, r2, r3, r4, r5, r6, r7⟩ := h2
  obtain ⟨k1, k2, k3, k4, k5, k6, k7, k8, k9, k10, k11⟩ := h1
  have kC := k1.2.2.2.2.2.2.2.2.2.2.2.2.2.2.2.2.1
  have kS := k1.2.2.2.2.2.2.2.2.2.2.2.2.2.2.2.2.2
  by_cases c : 0 ≤ k ∧ k < nl
  · obtain ⟨j, rfl⟩ : ∃ j : Nat, k = (j : Int) := ⟨k.toNat, by omega⟩
    have hj : j < nl := by omega
    have ns : ∀ d, d ≤ X + 25 → ¬ Sc φ d := fun d hd q => by have := k4 d q; omega
    rw [← nI_iz j]
    obtain ⟨m1, s1, C1, o1⟩ := cl_after k1 k3 k6 hj hq ha hb' hc'
    have R1 := rb_cg r1 (μ' := m1) (fun d d1 d2 => o1 d (by omega) (ns d (by omega)))
    obtain ⟨m2, s2, R2, o2⟩ := rb_after R1 r2 r3 kC kS r5 hj hq ha hb' hc'
    have K1 : CK m1 φ X z (kp A) np nl G C F Pa Lk L (nI np) pr := CK.run k1 k3 (fun cc hx => (o1 X (by omega) (ns X (by omega))).trans hx) (fun q hq => by
      obtain ⟨row, la, l1, l2⟩ := k1.2.2.2.1 q hq
      exact ⟨row, la, (o1 _ (by have := k9 q hq; omega) (sc_lnk k3 l1)).trans l1, l2⟩) (fun d d1 d2 d3 d4 => o1 d d1 d4) (fun d hd => (k4 d hd).2)
    refine ⟨_, m1, m2, s1, rb_rc R1, s2, φ, A, S, L, np, nl, G, C, F, Pa, Lk, pr, n, b, ?_, ⟨R2, r2, r3, r4, r5, r6, r7⟩, hn, hb⟩
    refine ci_out (μ := m1) ⟨K1, ?_, C1, k4, k5, k6, k7, k8, k9, bu_o k10 (o1 _ (by omega) (ns _ (by omega))) (o1 _ (by omega) (ns _ (by omega))), k11⟩ o2
    obtain ⟨f3, y1, y2⟩ := k2
    exact ⟨f3, (o1 _ (by omega) (ns _ (by omega))).trans y1, y2⟩
  · refine ⟨-1, μ, μ, ?_, rb_rc r1, ?_, φ, A, S, L, np, nl, G, C, F, Pa, Lk, pr, n, b, h1', h2', hn, hb⟩
    · unfold f_CL_after f_CL_after_40
      rw [cl_noLink k1 hk c, Option.bind_some, if_pos rfl]
    · unfold f_Mo_after
      rw [rb_noLink r1 r5 r3.1 hk c, Option.bind_some, if_pos rfl]
end OPU
