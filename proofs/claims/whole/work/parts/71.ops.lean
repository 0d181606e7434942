/-! The calls of the law: parse, link, extend, pieces, piece, convert, after. -/
section OPT
variable {μ : mM} {X z w : Nat}
theorem bu_ag {n : Nat} {b b' : Int → Int} (h : BU μ X n b) (e : ∀ i : Int, 0 ≤ i → i < n → b i = b' i) : BU μ X n b' := by
  obtain ⟨h1, f, h2, h3⟩ := h
  exact ⟨h1, f, h2, fun i hi => by rw [h3 i hi, e i (by omega) (by omega)]⟩
theorem ba_ag {A : Nat → Nat → Int32} {S : Nat → Int32} {n : Nat} {b b' : Int → Int} (h : BA A S n b) (e : ∀ i : Int, 0 ≤ i → i < n → b i = b' i) : BA A S n b' := ⟨h.1, fun i hi => by rw [h.2 i hi, e i (by omega) (by omega)]⟩
theorem cl_parse0 {φ : mM} {K : Int → Int} {np nl : Nat} {G : Nat → Lz} {C : Nat → List Pz} {F : Nat → Int} {Pa Lk : Nat → Nat} {L : Nat → Int64} {pr : Int32} {n : Nat} {b : Int → Int} (h : CI μ φ X z K np nl G C F Pa Lk L pr n b) (hn : n ≤ 256) (hb : Byt b) : (np = 6 → f_CL_parse X μ z w = some (iz (-8), μ, z, w)) ∧ (np < 6 → ftz b n ≠ 0 → f_CL_parse X μ z w = some (iz (-(ftz b n)), μ, z, w)) := by
  obtain ⟨cc, hx⟩ := ci_X h
  have hnp := h.1.2.2.2.2.2.2.2.2.2.2.2.2.2.2.2.1.2
  have hU := h.2.2.2.2.2.2.2.2.2.1
  have fR : 0 ≤ ftz b n ∧ ftz b n ≤ 10000 := ftz_R hb
  have E := xf_e hx
  unfold f_CL_parse
  refine ⟨fun c => ?_, fun c d => ?_⟩
  · refine mmT_i (Nat.le_refl _) (Nat.le_refl _) ?_ (Nat.le_refl _) (Nat.le_refl _)
    rw [E.2.2.2.1, Option.bind_some, nI_iz, zi_6, qlt (iR_s (by omega) (by omega)) (iR_s (by omega) (by omega)), if_neg (by omega), zi_m8]
  · refine mmT_i (Nat.le_refl _) (Nat.le_refl _) ?_ (Nat.le_refl _) (Nat.le_refl _)
    rw [E.2.2.2.1, Option.bind_some, nI_iz, zi_6, qlt (iR_s (by omega) (by omega)) (iR_s (by omega) (by omega)), if_pos (by omega), E.2.1, Option.bind_some, cl_fault hU hn hb, Option.bind_some, if_neg (show ¬ iz (-(ftz b n)) = 0 from fun q => by have := (iz_eq (b := 0) (iR_s (by omega) (by omega)) (iR_s (by omega) (by omega))).mp q; omega)]
theorem op_parse (h : IN μ X z) : ∃ a μ1 z1 w1 μ2, f_CL_parse X μ z w = some (a, μ1, z1, w1) ∧ (z ≤ z1 ∧ z1 ≤ z + 60 ∧ w ≤ w1 ∧ w1 ≤ w + 1000) ∧ mrc μ1 (some (X + 9)) 11 = some (X + 9) ∧ f_Mo_parse (X + 9) μ1 = some (a, μ2) ∧ IN μ2 X z1 := by
  obtain ⟨φ, A, S, L, np, nl, G, C, F, Pa, Lk, pr, n, bf, h1, h2, hn, hbf⟩ := h
  obtain ⟨r1, r2, r3, r4, r5, r6, r7⟩ := h2
  have hnp := h1.1.2.2.2.2.2.2.2.2.2.2.2.2.2.2.2.1.2
  by_cases c6 : np = 6
  · exact ⟨_, μ, z, w, μ, (cl_parse0 h1 hn hbf).1 c6, by omega, rb_rc r1, (rm_parse r1 r7 hn hbf r4 hnp).1 c6, φ, A, S, L, np, nl, G, C, F, Pa, Lk, pr, n, bf, h1, ⟨r1, r2, r3, r4, r5, r6, r7⟩, hn, hbf⟩
  · have c6' : np < 6 := by omega
    obtain ⟨b, eb⟩ : ∃ b, bp (kp (cpA A n np)) (np : Int) = b := ⟨_, rfl⟩
    have ag : ∀ i : Int, 0 ≤ i → i < n → bf i = b i := fun i i0 i1 => by rw [← eb, cp_b hbf r7 c6' hn i0 i1]
    have hKA := cp_KA (np := np) hbf r7 r2 hn
    have hb : Byt b := by rw [← eb]; exact bp_B hKA _
    have r7' := ba_ag r7 ag
    have h1' : CI μ φ X z (kp A) np nl G C F Pa Lk L pr n b := ⟨h1.1, h1.2.1, h1.2.2.1, h1.2.2.2.1, h1.2.2.2.2.1, h1.2.2.2.2.2.1, h1.2.2.2.2.2.2.1, h1.2.2.2.2.2.2.2.1, h1.2.2.2.2.2.2.2.2.1, bu_ag h1.2.2.2.2.2.2.2.2.2.1 ag, h1.2.2.2.2.2.2.2.2.2.2⟩
    by_cases cf : ftz b n = 0
    · obtain ⟨k1, k2, k3, k4, k5, k6, k7, k8, k9, k10, k11⟩ := h1'
      obtain ⟨m1, φ1, z1, w1, s1, B1, K1, P1, C1, S1, N1, Q1, X1, o1⟩ := cl_parse (w := w) k1 k2 k3 (fun c hc => (k4 c hc).2) k5 k6 k7 k10 hn hb c6' cf (cp_KE c6' hn) eb
      have R1 := rb_cg r1 (μ' := m1) (fun c c1 c2 => o1 c (by omega) (by omega) (by omega) (fun q => by have := k4 c q; omega))
      obtain ⟨m2, s2, R2, o2⟩ := (rm_parse R1 r7' hn hb r4 hnp).2.2 c6' cf
      have ns : ∀ c, c ≤ X + 25 → ¬ Sc φ c := fun c hc q => by have := k4 c q; omega
      refine ⟨_, m1, z1, w1, m2, s1, B1, rb_rc R1, s2, φ1, cpA A n np, va_up S 3 (nI (np + 1)), L, np + 1, nl, G, C, F, gup Pa np z, Lk, pr, n, b, ?_, ⟨R2, hKA, ?_, by simp [va_up], by simpa [va_up] using r5, by simpa [va_up] using r6, ⟨by simpa [va_up] using r7'.1, fun i hi => ?_⟩⟩, hn, hb⟩
      · refine ci_out (μ := m1) ⟨K1, P1, C1, fun c hc => ?_, Q1, fun k hk => by have := k6 k hk; omega, X1, fun c c1 c2 => by rw [N1 c (by omega)]; exact k8 c c1 c2, k9, bu_o k10 (o1 _ (by omega) (by omega) (by omega) (ns _ (by omega))) (o1 _ (by omega) (by omega) (by omega) (ns _ (by omega))), by omega⟩ o2
        obtain ⟨q, q2⟩ := S1 c hc
        rcases q with q | q
        · exact ⟨(k4 c q).1, q2⟩
        · exact ⟨by omega, q2⟩
      · unfold LT cpA at *
        simpa [va_up] using r3
      · unfold cpA
        simpa [va_up] using r7'.2 i hi
    · exact ⟨_, μ, z, w, μ, (cl_parse0 h1' hn hb).2 c6' cf, by omega, rb_rc r1, (rm_parse r1 r7' hn hb r4 hnp).2.1 c6' cf, φ, A, S, L, np, nl, G, C, F, Pa, Lk, pr, n, bf, h1, ⟨r1, r2, r3, r4, r5, r6, r7⟩, hn, hbf⟩
theorem mo_not7 {M : Nat} {A : Nat → Nat → Int32} {S : Nat → Int32} {L : Nat → Int64} (h : RB μ M A S L) {c : Nat} (c1 : M ≤ c) (c2 : c ≤ M + 16) {fs : List Value} : μ c ≠ some (.inr (7, fs)) := by
  obtain ⟨A', S', J, h1, -⟩ := rb_mo h
  intro q
  have e : c = M ∨ c = M + 1 ∨ c = M + 2 ∨ c = M + 3 ∨ c = M + 4 ∨ c = M + 5 ∨ c = M + 6 ∨ c = M + 7 ∨ c = M + 8 ∨ c = M + 9 ∨ c = M + 10 ∨ c = M + 11 ∨ c = M + 12 ∨ c = M + 13 ∨ c = M + 14 ∨ c = M + 15 ∨ c = M + 16 := by omega
  obtain ⟨g0, g1, g2, g3, g4, g5, g6, g7, g8, g9, g10, g11, g12, g13, g14, g15, g16⟩ := h1
  rcases e with rfl | rfl | rfl | rfl | rfl | rfl | rfl | rfl | rfl | rfl | rfl | rfl | rfl | rfl | rfl | rfl | rfl
  · rw [g0] at q
    have := (Prod.mk.inj (Sum.inr.inj (Option.some.inj q))).1
    omega
  · rw [g1] at q; cases q
  · rw [g2] at q; cases q
  · rw [g3] at q; cases q
  · rw [g4] at q; cases q
  · rw [g5] at q; cases q
  · rw [g6] at q; cases q
  · rw [g7] at q; cases q
  · rw [g8] at q; cases q
  · rw [g9] at q; cases q
  · rw [g10] at q; cases q
  · rw [g11] at q; cases q
  · rw [g12] at q; cases q
  · rw [g13] at q; cases q
  · rw [g14] at q; cases q
  · rw [g15] at q; cases q
  · rw [g16] at q; cases q
theorem jr_in {φ : mM} {A : Nat → Nat → Int32} {S : Nat → Int32} {np nl : Nat} {G : Nat → Lz} {C : Nat → List Pz} {F : Nat → Int} {Pa Lk : Nat → Nat} {L : Nat → Int64} {pr : Int32} {n : Nat} {b : Int → Int} (h1 : CI μ φ X z (kp A) np nl G C F Pa Lk L pr n b) (h2 : RI μ X A S L np nl G pr n b) (hn : n ≤ 256) (hb : Byt b) {g : Lz} {μ1 μ2 : mM} {z1 w1 : Nat} (hJ : JR μ φ X z w (kp A) np nl G C F Pa Lk L (nI np) pr g μ1 z1 w1) (g1 : -1 ≤ g.1 ∧ g.1 < nl) (g2 : 0 ≤ g.2.1 ∧ g.2.1 < np) (o2 : Out (X + 9) μ1 μ2) (hy : mkB (kp A) nl G C g → RB μ2 (X + 9) (lkA A nl g) (va_up S 10 (nI (nl + 1))) (vp_updL L nl (jz (-1)))) (hno : ¬ mkB (kp A) nl G C g → RB μ2 (X + 9) A S L) : IN μ2 X z1 := by
  obtain ⟨k1, k2, k3, k4, k5, k6, k7, k8, k9, k10, k11⟩ := h1
  obtain ⟨r1, r2, r3, r4, r5, r6, r7⟩ := h2
  obtain ⟨j1, j2, j3, j4, j5, j6, j7⟩ := hJ
  have ns : ∀ c, c ≤ X + 25 → ¬ Sc φ c := fun c hc q => by have := k4 c q; omega
  have P1 : KP μ1 X np Pa := by
    obtain ⟨f3, y1, y2⟩ := k2
    exact ⟨f3, (j5 _ (by omega) (by omega) (by omega) (by omega)).trans y1, y2⟩
  have U1 : BU μ1 X n b := bu_o k10 (j5 _ (by omega) (by omega) (by omega) (by omega)) (j5 _ (by omega) (by omega) (by omega) (by omega))
  have cfm : ∀ c, Sc φ c → ∃ w, CF μ1 c w := fun c hc => by
    obtain ⟨-, -, w, x⟩ := k3.1 c hc
    have := k4 c hc
    exact ⟨w, cf_tr x (j5 c this.2 (by omega) (by omega) (by omega))⟩
  have cf8 : ∃ w, CF μ1 (X + 8) w := by
    obtain ⟨w, x⟩ := k3.2.2.1
    exact ⟨w, cf_tr x (j5 _ (by omega) (by omega) (by omega) (by omega))⟩
  have R1 := rb_cg r1 (μ' := μ1) (fun c c1 c2 => j5 c (by omega) (by omega) (by omega) (by omega))
  by_cases c : mkB (kp A) nl G C g
  · obtain ⟨φ', y, f1, f2, f3, K1⟩ := j7 c
    have ek : kp (lkA A nl g) = kp A := by
      unfold kp lkA
      simp [va_up]
    have eL : vp_updL L nl (jz (-1)) = gup L nl (jz (-1)) := rfl
    have nl16 : nl ≠ 16 := c.2.2.2
    have yk := K1.2.2.2.1 nl (by omega)
    have hy1 : X + 25 < y := by
      obtain ⟨row, la, l1, -⟩ := yk
      have ey : gup Lk nl y nl = y := if_pos rfl
      rw [ey] at l1
      have h8 := (K1.2.2.2.2.2.2.1 nl (by omega)).1
      rw [ey] at h8
      by_cases q : X + 25 < y
      · exact q
      · exact absurd l1 (mo_not7 R1 (by omega) (by omega))
    refine ⟨φ', lkA A nl g, va_up S 10 (nI (nl + 1)), vp_updL L nl (jz (-1)), np, nl + 1, gup G nl g, gup C nl (chl C g.1 ++ psg (kp A) g), gup F nl (if g.1 < 0 then g.2.1 else F g.1.toNat), Pa, gup Lk nl y, pr, n, b, ?_, ⟨hy c, ?_, ?_, by simpa [va_up] using r4, by simp [va_up], by simpa [va_up] using r6, ⟨by simpa [va_up] using r7.1, fun i hi => by simpa [lkA, va_up] using r7.2 i hi⟩⟩, hn, hb⟩
    · rw [ek, eL]
      refine ci_out (μ := μ1) ⟨K1, P1, ⟨fun d hd => ?_, ?_, cf8, fun d hd => k3.2.2.2 d (f3 d hd)⟩, fun d hd => ?_, fun p hp => ?_, fun k hk => ?_, ⟨by rw [f2 _ (by omega)]; exact k7.1, by rw [f2 _ (by omega)]; exact k7.2.1, by rw [f2 _ (by omega)]; exact k7.2.2⟩, fun d d1 d2 => by rw [f2 d (by omega)]; exact k8 d d1 d2, fun k hk => ?_, U1, by omega⟩ o2
      · have q := f3 d hd
        have q4 := k4 d q
        exact ⟨by rw [f2 d q4.2]; exact (k3.1 d q).1, by omega, cfm d q⟩
      · rw [f2 _ (by omega)]; exact k3.2.1
      · have := k4 d (f3 d hd)
        omega
      · exact ⟨(k5 p hp).1.mono f1, (k5 p hp).2⟩
      · unfold gup
        by_cases e : k = nl
        · rw [if_pos e]
          by_cases e2 : g.1 < 0
          · rw [if_pos e2]; exact g2.2
          · rw [if_neg e2]; exact k6 _ (by omega)
        · rw [if_neg e]; exact k6 k (by omega)
      · unfold gup
        by_cases e : k = nl
        · rw [if_pos e]; exact hy1
        · rw [if_neg e]; exact k9 k (by omega)
    · unfold KA at r2
      unfold KA lkA
      simpa [va_up] using r2
    · refine ⟨by have := r3.1; omega, fun k hk => ?_⟩
      by_cases e : k = nl
      · subst e
        simp [lkA, gup, va_up, upd]
        omega
      · have := r3.2 k (by omega)
        simpa [lkA, gup, va_up, upd, e] using this
  · have K1 := j6 c
    exact ⟨φ, A, S, L, np, nl, G, C, F, Pa, Lk, pr, n, b, ci_out (μ := μ1) ⟨K1, P1, ⟨fun d hd => ⟨(k3.1 d hd).1, (k3.1 d hd).2.1, cfm d hd⟩, k3.2.1, cf8, k3.2.2.2⟩, fun d hd => by have := k4 d hd; omega, k5, k6, k7, k8, k9, U1, by omega⟩ o2, ⟨hno c, r2, r3, r4, r5, r6, r7⟩, hn, hb⟩
theorem op_link (h : IN μ X z) {a b' it : Int} (ha : iR a) (hb' : iR b') (hi : iR it) (as : Bool) : ∃ v μ1 z1 w1 μ2, f_CL_link X μ z w (iz a) (iz b') (iz it) (iz (bI as)) = some (v, μ1, z1, w1) ∧ (z ≤ z1 ∧ z1 ≤ z + 60 ∧ w ≤ w1 ∧ w1 ≤ w + 1000) ∧ mrc μ1 (some (X + 9)) 11 = some (X + 9) ∧ f_Mo_link (X + 9) μ1 (iz a) (iz b') (iz it) (iz (bI as)) = some (v, μ2) ∧ IN μ2 X z1 := by
  obtain ⟨φ, A, S, L, np, nl, G, C, F, Pa, Lk, pr, n, b, h1, h2, hn, hb⟩ := h
  have h2' := h2
  obtain ⟨r1, r2, r3, r4, r5, r6, r7⟩ := h2
  have hK := h1.1
  have kw := hK.2.2.2.2.2.2.2.2.2.2.2.2.2.1
  have kg := hK.2.2.2.2.2.2.2.2.2.2.2.2.2.2.1
  have kn := hK.2.2.2.2.2.2.2.2.2.2.2.2.2.2.2.1
  have kC := hK.2.2.2.2.2.2.2.2.2.2.2.2.2.2.2.2.1
  have k11 := h1.2.2.2.2.2.2.2.2.2.2
  have hGR : ∀ k, k < nl → iR (G k).2.1 ∧ iR (G k).2.2.1 ∧ iR (G k).2.2.2.1 := fun k hk => by
    obtain ⟨-, -, g3, g4, g5⟩ := kg k hk
    exact ⟨iR_s (by omega) (by omega), iR_s (by omega) (by omega), g5⟩
  have hW : ∀ p : Int, 0 ≤ p → p < np → WB (bp (kp A) p) := fun p p0 p1 => by
    have := kw p.toNat (by omega)
    rw [Int.toNat_of_nonneg p0] at this
    exact this
  obtain ⟨a1, a2⟩ := cl_link (w := w) hK h1.2.1 (a := a) (b := b') (it := it) (as := as) (g := (-1, a, b', it, as && decide (it ≠ 3))) rfl ha hb' hi
  by_cases c : (0 ≤ a ∧ a < np) ∧ 0 ≤ b' ∧ b' < np
  · obtain ⟨m1, z1, w1, s1, J1⟩ := a2 c
    have R1 := rb_cg r1 (μ' := m1) (fun d d1 d2 => J1.2.2.2.2.1 d (by omega) (by omega) (by omega) (by omega))
    obtain ⟨m2, s2, o2, y1, y2⟩ := (rb_link R1 r2 r3 kC hGR r5 r4 kn.2 hW ha hb' hi as rfl).2 c
    have B := J1
    exact ⟨_, m1, z1, w1, m2, s1, ⟨B.1, by have := B.2.1; omega, B.2.2.1, by have := B.2.2.2.1; omega⟩, rb_rc R1, s2, jr_in h1 h2' hn hb J1 ⟨by show (-1 : Int) ≤ -1; omega, by show (-1 : Int) < nl; omega⟩ c.1 o2 y1 y2⟩
  · exact ⟨_, μ, z, w, μ, a1 c, by omega, rb_rc r1, (rb_link r1 r2 r3 kC hGR r5 r4 kn.2 hW ha hb' hi as rfl).1 c, φ, A, S, L, np, nl, G, C, F, Pa, Lk, pr, n, b, h1, h2', hn, hb⟩
theorem op_extend (h : IN μ X z) {k b' it : Int} (hk : iR k) (hb' : iR b') (hi : iR it) (as : Bool) : ∃ v μ1 z1 w1 μ2, f_CL_extend X μ z w (iz k) (iz b') (iz it) (iz (bI as)) = some (v, μ1, z1, w1) ∧ (z ≤ z1 ∧ z1 ≤ z + 60 ∧ w ≤ w1 ∧ w1 ≤ w + 1000) ∧ mrc μ1 (some (X + 9)) 11 = some (X + 9) ∧ f_Mo_extend (X + 9) μ1 (iz k) (iz b') (iz it) (iz (bI as)) = some (v, μ2) ∧ IN μ2 X z1 := by
  obtain ⟨φ, A, S, L, np, nl, G, C, F, Pa, Lk, pr, n, b, h1, h2, hn, hb⟩ := h
  have h2' := h2
  obtain ⟨r1, r2, r3, r4, r5, r6, r7⟩ := h2
  have hK := h1.1
  have kw := hK.2.2.2.2.2.2.2.2.2.2.2.2.2.1
  have kg := hK.2.2.2.2.2.2.2.2.2.2.2.2.2.2.1
  have kn := hK.2.2.2.2.2.2.2.2.2.2.2.2.2.2.2.1
  have kC := hK.2.2.2.2.2.2.2.2.2.2.2.2.2.2.2.2.1
  have k11 := h1.2.2.2.2.2.2.2.2.2.2
  have hGR : ∀ k, k < nl → iR (G k).2.1 ∧ iR (G k).2.2.1 ∧ iR (G k).2.2.2.1 := fun k hk => by
    obtain ⟨-, -, g3, g4, g5⟩ := kg k hk
    exact ⟨iR_s (by omega) (by omega), iR_s (by omega) (by omega), g5⟩
  have hW : ∀ p : Int, 0 ≤ p → p < np → WB (bp (kp A) p) := fun p p0 p1 => by
    have := kw p.toNat (by omega)
    rw [Int.toNat_of_nonneg p0] at this
    exact this
  obtain ⟨a1, a2⟩ := cl_extend (w := w) hK h1.2.1 (k := k) (b := b') (it := it) (as := as) (g := (k, (G k.toNat).2.2.1, b', it, as && decide (it ≠ 3))) rfl hk hb' hi
  by_cases c : (0 ≤ k ∧ k < nl) ∧ 0 ≤ b' ∧ b' < np
  · obtain ⟨m1, z1, w1, s1, J1⟩ := a2 c
    have R1 := rb_cg r1 (μ' := m1) (fun d d1 d2 => J1.2.2.2.2.1 d (by omega) (by omega) (by omega) (by omega))
    obtain ⟨m2, s2, o2, y1, y2⟩ := (rb_extend R1 r2 r3 kC hGR r5 r4 kn.2 hW hk hb' hi as rfl).2 c
    have B := J1
    exact ⟨_, m1, z1, w1, m2, s1, ⟨B.1, by have := B.2.1; omega, B.2.2.1, by have := B.2.2.2.1; omega⟩, rb_rc R1, s2, jr_in h1 h2' hn hb J1 ⟨by show (-1 : Int) ≤ k; omega, c.1.2⟩ (kg k.toNat (by omega)).2.2.2.1 o2 y1 y2⟩
  · exact ⟨_, μ, z, w, μ, a1 c, by omega, rb_rc r1, (rb_extend r1 r2 r3 kC hGR r5 r4 kn.2 hW hk hb' hi as rfl).1 c, φ, A, S, L, np, nl, G, C, F, Pa, Lk, pr, n, b, h1, h2', hn, hb⟩
theorem op_pieces (h : IN μ X z) {k : Int} (hk : iR k) : ∃ v μ2, f_CL_pieces μ X (iz k) = some v ∧ f_Mo_pieces (X + 9) μ (iz k) = some (v, μ2) ∧ IN μ2 X z := by
  obtain ⟨φ, A, S, L, np, nl, G, C, F, Pa, Lk, pr, n, b, h1, h2, hn, hb⟩ := h
  obtain ⟨r1, r2, r3, r4, r5, r6, r7⟩ := h2
  have kC := h1.1.2.2.2.2.2.2.2.2.2.2.2.2.2.2.2.2.1
  obtain ⟨m2, s2, R2, o2⟩ := rb_pieces r1 r2 r3 kC r5 hk
  exact ⟨_, m2, cl_pieces h1.1 hk, s2, φ, A, S, L, np, nl, G, C, F, Pa, Lk, pr, n, b, ci_out h1 o2, ⟨R2, r2, r3, r4, r5, r6, r7⟩, hn, hb⟩
theorem op_piece (h : IN μ X z) {k j : Int} (hk : iR k) (hj : iR j) : ∃ v μ2, f_CL_piece μ X (iz k) (iz j) = some v ∧ f_Mo_piece (X + 9) μ (iz k) (iz j) = some (v, μ2) ∧ IN μ2 X z := by
  obtain ⟨φ, A, S, L, np, nl, G, C, F, Pa, Lk, pr, n, b, h1, h2, hn, hb⟩ := h
  obtain ⟨r1, r2, r3, r4, r5, r6, r7⟩ := h2
  have kC := h1.1.2.2.2.2.2.2.2.2.2.2.2.2.2.2.2.2.1
  obtain ⟨m2, s2, R2, o2⟩ := rb_piece r1 r2 r3 kC r5 hk hj
  exact ⟨_, m2, cl_piece h1.1 hk hj, s2, φ, A, S, L, np, nl, G, C, F, Pa, Lk, pr, n, b, ci_out h1 o2, ⟨R2, r2, r3, r4, r5, r6, r7⟩, hn, hb⟩
end OPT
