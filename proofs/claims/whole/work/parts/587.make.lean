/-! The reference makes a link. -/
def RB (μ : mM) (M : Nat) (A : Nat → Nat → Int32) (S : Nat → Int32) (L : Nat → Int64) : Prop := ∃ A2 v l, sB A2 A ∧ RF μ M A2 S L v l ∧ l.length ≤ 31
def fndz (G : Nat → Lz) (g : Lz) : Nat → Nat → Option Nat
  | 0, _ => none
  | n + 1, i => if G i = g then some i else fndz G g n (i + 1)
def mkA (K : Int → Int) (nl : Nat) (G : Nat → Lz) (C : Nat → List Pz) (g : Lz) : Int := if rfz K g.2.1 g.2.2.1 g.2.2.2.1 g.2.2.2.2 < 0 then rfz K g.2.1 g.2.2.1 g.2.2.2.1 g.2.2.2.2 else match fndz G g nl 0 with
  | some k => k
  | none => if 24 < (chl C g.1 ++ psg K g).length then -9 else if nl = 16 then -8 else nl
def mkB (K : Int → Int) (nl : Nat) (G : Nat → Lz) (C : Nat → List Pz) (g : Lz) : Prop := rfz K g.2.1 g.2.2.1 g.2.2.2.1 g.2.2.2.2 = 0 ∧ fndz G g nl 0 = none ∧ (chl C g.1 ++ psg K g).length ≤ 24 ∧ nl ≠ 16
def lkA (A : Nat → Nat → Int32) (nl : Nat) (g : Lz) : Nat → Nat → Int32 := va_up (va_up (va_up (va_up (va_up A 4 (upd (A 4) nl (iz g.1))) 5 (upd (A 5) nl (iz g.2.1))) 6 (upd (A 6) nl (iz g.2.2.1))) 7 (upd (A 7) nl (iz g.2.2.2.1))) 8 (upd (A 8) nl (iz (bI g.2.2.2.2)))
theorem rfE_le (K : Int → Int) (a b it : Int) (bk : Bool) : rfE K a b it bk = 0 ∨ rfE K a b it bk = -7 := by
  unfold rfE
  split
  · split <;> omega
  · split
    · split <;> omega
    · omega
theorem rfz_le (K : Int → Int) (a b it : Int) (bk : Bool) : -7 ≤ rfz K a b it bk ∧ rfz K a b it bk ≤ 0 := by
  have h := rfE_le K a b it bk
  unfold rfz
  split
  · omega
  · split
    · omega
    · split
      · split <;> omega
      · split
        · split
          · omega
          · split
            · omega
            · split <;> omega
        · omega
section MAK
variable {μ : mM} {M : Nat} {A : Nat → Nat → Int32} {S : Nat → Int32} {L : Nat → Int64} {v : Int → Int} {l : List Pz}
theorem rf_S10 (h : RF μ M A S L v l) : mfI μ (some M) [11] 10 = some (S 10) ∧ mfI μ (some M) [11] 3 = some (S 3) ∧ mfI μ (some M) [11] 11 = some (S 11) ∧ mfI μ (some M) [11] 1 = some (S 1) := by
  obtain ⟨A', S', o, m, ⟨J, h1, h2⟩, h3, ⟨s1, s3, s10, s11⟩, h5⟩ := h
  exact ⟨by rw [mo_f10 h1, s10], by rw [mo_f3 h1, s3], by rw [mo_f11 h1, s11], by rw [mo_f1 h1, s1]⟩
theorem rf_find {nl : Nat} {G : Nat → Lz} (h : RF μ M A S L v l) (hG : LT A nl G) (hGR : ∀ k, k < nl → iR (G k).2.1 ∧ iR (G k).2.2.1 ∧ iR (G k).2.2.2.1) (hS : S 10 = nI nl) {g : Lz} (g1 : iR g.1) (g2 : iR g.2.1) (g3 : iR g.2.2.1) (g4 : iR g.2.2.2.1) (kx : mM → Int32 → Int32 → Int32 → Int32 → Int32 → Option (Int32 × mM)) : ∀ (n fu i : Nat), n < fu → i + n = nl → f_Mo_make_41 M kx fu μ (iz g.1) (iz g.2.1) (iz g.2.2.1) (iz g.2.2.2.1) (iz (bI g.2.2.2.2)) (nI i) = match fndz G g n i with
    | some k => some (nI k, μ)
    | none => kx μ (iz g.1) (iz g.2.1) (iz g.2.2.1) (iz g.2.2.2.1) (iz (bI g.2.2.2.2)) := by
  intro n
  have hn16 := hG.1
  induction n with
  | zero =>
    intro fu i hf hi
    obtain ⟨fu, rfl⟩ : ∃ m, fu = m + 1 := ⟨fu - 1, by omega⟩
    rw [f_Mo_make_41, (rf_S10 h).1, Option.bind_some, hS, if_pos ((nIz_le (by omega) (by omega)).mpr (by omega))]
    rfl
  | succ n ih =>
    intro fu i hf hi
    obtain ⟨fu, rfl⟩ : ∃ m, fu = m + 1 := ⟨fu - 1, by omega⟩
    obtain ⟨a4, a5, a6, a7, a8, ap, al⟩ := hG.2 i (by omega)
    obtain ⟨r5, r6, r7⟩ := hGR i (by omega)
    have gs := rf_gs h (k := i) (by omega)
    have ih' := ih fu (i + 1) (by omega) (by omega)
    rw [f_Mo_make_41, (rf_S10 h).1, Option.bind_some, hS, if_neg (fun q => by have := (nIz_le (by omega) (by omega)).mp q; omega)]
    rw [(rf_fs h).1, Option.bind_some, gs.1, Option.bind_some, a4, (rf_fs h).2.1, Option.bind_some, gs.2.1, Option.bind_some, a5, (rf_fs h).2.2.1, Option.bind_some, gs.2.2.1, Option.bind_some, a6]
    unfold f_Mo_make_87 f_Mo_make_88 f_Mo_make_122 fndz
    rw [(rf_fs h).2.2.2.1, Option.bind_some, gs.2.2.2.1, Option.bind_some, a7, (rf_fs h).2.2.2.2.1, Option.bind_some, gs.2.2.2.2.1, Option.bind_some, a8, nI_s]
    by_cases e1 : (G i).1 = g.1
    · rw [if_pos (congrArg iz e1)]
      by_cases e2 : (G i).2.1 = g.2.1
      · rw [if_pos (congrArg iz e2)]
        by_cases e3 : (G i).2.2.1 = g.2.2.1
        · rw [if_pos (congrArg iz e3), if_neg (by decide)]
          by_cases e4 : (G i).2.2.2.1 = g.2.2.2.1
          · rw [if_pos (congrArg iz e4)]
            by_cases e5 : (G i).2.2.2.2 = g.2.2.2.2
            · rw [if_pos (bI_eq.mpr e5), if_pos (Prod.ext e1 (Prod.ext e2 (Prod.ext e3 (Prod.ext e4 e5))))]
            · rw [if_neg (fun q => e5 (bI_eq.mp q)), if_neg (fun q => e5 (by rw [q]))]
              exact ih'
          · rw [if_neg (fun q => e4 ((iz_eq r7 g4).mp q)), if_neg (fun q => e4 (by rw [q]))]
            exact ih'
        · rw [if_neg (fun q => e3 ((iz_eq r6 g3).mp q)), if_pos rfl, if_neg (fun q => e3 (by rw [q]))]
          exact ih'
      · rw [if_neg (fun q => e2 ((iz_eq r5 g2).mp q)), if_pos rfl, if_neg (fun q => e2 (by rw [q]))]
        exact ih'
    · rw [if_neg (fun q => e1 ((iz_eq (iR_s (by omega) (by omega)) g1).mp q)), if_pos rfl, if_neg (fun q => e1 (by rw [q]))]
      exact ih'
theorem rf_store (h : RF μ M A S L v l) {nl : Nat} (hnl : nl < 16) (hS : S 10 = nI nl) (g : Lz) : ∃ μ', ((mfA μ (some M) [11] 4).bind fun v17 =>
      (mfI μ (some M) [11] 10).bind fun v18 =>
      (msI μ (v17) v18 (iz g.1)).bind fun m19 =>
      (mfA m19 (some M) [11] 5).bind fun v20 =>
      (mfI m19 (some M) [11] 10).bind fun v21 =>
      (msI m19 (v20) v21 (iz g.2.1)).bind fun m22 =>
      (mfA m22 (some M) [11] 6).bind fun v23 =>
      (mfI m22 (some M) [11] 10).bind fun v24 =>
      (msI m22 (v23) v24 (iz g.2.2.1)).bind fun m25 =>
      (mfA m25 (some M) [11] 7).bind fun v26 =>
      (mfI m25 (some M) [11] 10).bind fun v27 =>
      (msI m25 (v26) v27 (iz g.2.2.2.1)).bind fun m28 =>
      (mfA m28 (some M) [11] 8).bind fun v29 =>
      (mfI m28 (some M) [11] 10).bind fun v30 =>
      (msZ m28 (v29) v30 (iz (bI g.2.2.2.2))).bind fun m31 =>
      (mfA m31 (some M) [11] 9).bind fun v32 =>
      (mfI m31 (some M) [11] 10).bind fun v33 =>
      (msJ m31 (v32) v33 (-1 : Int64)).bind fun m34 =>
      (mfI m34 (some M) [11] 10).bind fun v35 =>
      (mpI m34 (some M) [11] 10 (v35 + (1 : Int32))).bind fun m36 =>
      (mfI m36 (some M) [11] 10).bind fun v37 =>
      some ((v37 - (1 : Int32)), m36)) = some (nI nl, μ') ∧ RF μ' M (lkA A nl g) (va_up S 10 (nI (nl + 1))) (vp_updL L nl (jz (-1))) v l ∧ Out M μ μ' := by
  obtain ⟨A', S', o, m, ⟨J, h1, h9, h18, h19, h20⟩, ⟨a0, a2, a4, a5, a6, a7, a8, a17⟩, ⟨c1, c3, c10, c11⟩, h5, h6⟩ := h
  have hS' : S' 10 = nI nl := c10.trans hS
  have g1 := mo_u4 h1 (upd (A' 4) nl (iz g.1))
  obtain ⟨A1, e1⟩ : ∃ A1, A1 = va_up A' 4 (upd (A' 4) nl (iz g.1)) := ⟨_, rfl⟩
  rw [← e1] at g1
  have g2 := mo_u5 g1 (upd (A1 5) nl (iz g.2.1))
  obtain ⟨A2, e2⟩ : ∃ A2, A2 = va_up A1 5 (upd (A1 5) nl (iz g.2.1)) := ⟨_, rfl⟩
  rw [← e2] at g2
  have g3 := mo_u6 g2 (upd (A2 6) nl (iz g.2.2.1))
  obtain ⟨A3, e3⟩ : ∃ A3, A3 = va_up A2 6 (upd (A2 6) nl (iz g.2.2.1)) := ⟨_, rfl⟩
  rw [← e3] at g3
  have g4 := mo_u7 g3 (upd (A3 7) nl (iz g.2.2.2.1))
  obtain ⟨A4, e4⟩ : ∃ A4, A4 = va_up A3 7 (upd (A3 7) nl (iz g.2.2.2.1)) := ⟨_, rfl⟩
  rw [← e4] at g4
  have g5 := mo_u8 g4 (upd (A4 8) nl (iz (bI g.2.2.2.2)))
  obtain ⟨A5, e5⟩ : ∃ A5, A5 = va_up A4 8 (upd (A4 8) nl (iz (bI g.2.2.2.2))) := ⟨_, rfl⟩
  rw [← e5] at g5
  have g6 := mo_u9 g5 (vp_updL (J 9) nl (jz (-1)))
  have g7 := mo_w10 g6 (nI (nl + 1))
  have hz : iz (bI g.2.2.2.2) = 0 ∨ iz (bI g.2.2.2.2) = 1 := by
    cases g.2.2.2.2
    · exact Or.inl rfl
    · exact Or.inr rfl
  have e9 : nI (nl + 1) - 1 = nI nl := by
    rw [nI_iz, nI_iz, zi_1, iz_sub]
    congr 1
    omega
  refine ⟨_, ?_, ⟨A5, _, o, m, ⟨_, g7, ?_, h18, h19, h20⟩, ?_, ?_, ?_, ?_⟩, ?_⟩
  · rw [mo_f4 h1, Option.bind_some, mo_f10 h1, Option.bind_some, hS', mo_s4 h1 hnl, Option.bind_some, mo_f5 g1, Option.bind_some, mo_f10 g1, Option.bind_some, hS', mo_s5 g1 hnl, Option.bind_some]
    rw [mo_f6 g2, Option.bind_some, mo_f10 g2, Option.bind_some, hS', mo_s6 g2 hnl, Option.bind_some]
    rw [mo_f7 g3, Option.bind_some, mo_f10 g3, Option.bind_some, hS', mo_s7 g3 hnl, Option.bind_some]
    rw [mo_f8 g4, Option.bind_some, mo_f10 g4, Option.bind_some, hS', mo_s8 g4 hz hnl, Option.bind_some]
    rw [mo_f9 g5, Option.bind_some, mo_f10 g5, Option.bind_some, hS', zj_m1, mo_s9 g5 hnl, Option.bind_some]
    rw [mo_f10 g6, Option.bind_some, hS', nI_s, mo_p10 g6, Option.bind_some]
    rw [mo_f10 g7, Option.bind_some]
    have e10 : va_up S' 10 (nI (nl + 1)) 10 = nI (nl + 1) := by simp [va_up]
    rw [e10, e9]
  · simp [va_up, h9]
  · subst e5 e4 e3 e2 e1
    unfold sA lkA
    simp [va_up, a0, a2, a4, a5, a6, a7, a8, a17]
  · unfold sS
    simp [va_up, c1, c3, c11]
  · simp [va_up, h5]
  · subst e5 e4 e3 e2 e1
    exact h6
  · intro b hb
    rw [mup_ne _ _ (by omega), mup_ne _ _ (by omega), mup_ne _ _ (by omega), mup_ne _ _ (by omega), mup_ne _ _ (by omega), mup_ne _ _ (by omega), mup_ne _ _ (by omega)]
theorem lkA_sB {A A2 : Nat → Nat → Int32} (h : sB A2 A) (nl : Nat) (g : Lz) : sB (lkA A2 nl g) (lkA A nl g) := by
  obtain ⟨a0, a2, a4, a5, a6, a7, a8⟩ := h
  unfold sB lkA
  simp [va_up, a0, a2, a4, a5, a6, a7, a8]
theorem rf_make {nl : Nat} {G : Nat → Lz} {C : Nat → List Pz} (h : RB μ M A S L) (hk : KA A) (hG : LT A nl G) (hC : CH (kp A) nl G C) (hGR : ∀ k, k < nl → iR (G k).2.1 ∧ iR (G k).2.2.1 ∧ iR (G k).2.2.2.1) (hS : S 10 = nI nl) {k a b it : Int} (h0 : -1 ≤ k) (h1 : k < nl) (ha : 0 ≤ a ∧ a < 6) (hA : WB (bp (kp A) a)) (hb : 0 ≤ b ∧ b < 6) (hB : WB (bp (kp A) b)) (hi : iR it) (as : Bool) {g : Lz} (hg : g = (k, a, b, it, as && decide (it ≠ 3))) : ∃ μ', f_Mo_make M μ (iz k) (iz a) (iz b) (iz it) (iz (bI as)) = some (iz (mkA (kp A) nl G C g), μ') ∧ Out M μ μ' ∧ (mkB (kp A) nl G C g → RB μ' M (lkA A nl g) (va_up S 10 (nI (nl + 1))) (vp_updL L nl (jz (-1)))) ∧ (¬ mkB (kp A) nl G C g → RB μ' M A S L) := by
  obtain ⟨A2, v, l, b2, hR, hl⟩ := h
  have ek := sB_kp b2
  have hk2 := sB_KA b2 hk
  have hn16 := hG.1
  have e16 : f_Mo_make M μ (iz k) (iz a) (iz b) (iz it) (iz (bI as)) = f_Mo_make_16 M μ (iz k) (iz a) (iz b) (iz it) (iz (bI (as && decide (it ≠ 3)))) := by
    unfold f_Mo_make f_Mo_make_15
    cases as with
    | false =>
      rw [if_pos (by decide)]
      rfl
    | true =>
      rw [if_neg (by decide)]
      by_cases e3 : it = 3
      · rw [zi_3, if_pos (congrArg iz e3), decide_eq_false (fun q => q e3)]
        rfl
      · rw [zi_3, if_neg (fun q => e3 ((iz_eq hi (iR_s (by omega) (by omega))).mp q)), decide_eq_true e3]
        rfl
  generalize hbk : (as && decide (it ≠ 3)) = bk at hg e16
  have hg1 : g.1 = k := by rw [hg]
  have hg2 : g.2.1 = a := by rw [hg]
  have hg3 : g.2.2.1 = b := by rw [hg]
  have hg4 : g.2.2.2.1 = it := by rw [hg]
  have hg5 : g.2.2.2.2 = bk := by rw [hg]
  obtain ⟨m1, v1, s1, k1, o1⟩ := rf_refusal hR hk2 (by omega) ha (by rw [ek]; exact hA) hb (by rw [ek]; exact hB) hi bk
  rw [ek] at s1
  have rl := rfz_le (kp A) a b it bk
  rw [e16]
  unfold f_Mo_make_16
  rw [rf_rc hR, Option.bind_some, s1, Option.bind_some]
  unfold mkA mkB psg
  rw [hg1, hg2, hg3, hg4, hg5]
  change ∃ μ', (if (0 : Int32) ≤ iz (rfz (kp A) a b it bk) then f_Mo_make_41 M (fun μ y1 y2 y3 y4 y6 => f_Mo_make_128 M μ y1 y2 y3 y4 y6) 4096 m1 (iz k) (iz a) (iz b) (iz it) (iz (bI bk)) 0 else some (iz (rfz (kp A) a b it bk), m1)) = _ ∧ _
  by_cases r0 : rfz (kp A) a b it bk < 0
  · refine ⟨m1, ?_, o1, fun q => by omega, fun _ => ⟨A2, v1, l, b2, k1, hl⟩⟩
    rw [zi_0, if_neg (fun q => by have := (iz_le (iR_s (by omega) (by omega)) (iR_s (by omega) (by omega))).mp q; omega), if_pos r0]
  · have hP := rfz_ok ha hA hb hB (show rfz (kp A) a b it bk = 0 by omega)
    rw [zi_0, if_pos ((iz_le (iR_s (by omega) (by omega)) (iR_s (by omega) (by omega))).mpr (by omega)), if_neg r0]
    have fl := rf_find k1 (sB_LT b2 hG) hGR hS (g := g) (by rw [hg1]; exact iR_s (by omega) (by omega)) (by rw [hg2]; exact iR_s (by omega) (by omega)) (by rw [hg3]; exact iR_s (by omega) (by omega)) (by rw [hg4]; exact hi) (fun μ y1 y2 y3 y4 y6 => f_Mo_make_128 M μ y1 y2 y3 y4 y6) nl 4096 0 (by omega) (by omega)
    rw [hg1, hg2, hg3, hg4, hg5] at fl
    rw [show iz 0 = nI 0 from rfl, fl]
    cases hf : fndz G g nl 0 with
    | some j =>
      refine ⟨m1, ?_, o1, fun q => by simp at q, fun _ => ⟨A2, v1, l, b2, k1, hl⟩⟩
      show some (nI j, m1) = some (iz (j : Int), m1)
      rw [nI_iz]
    | none =>
      obtain ⟨m2, A3, v2, s2, k2, b3, o2⟩ := rf_lay k1 hk2 (sB_LT b2 hG) (by rw [ek]; exact hC) h0 h1
      have cl := chl_len hC h1
      have ek3 : kp A3 = kp A := (sB_kp b3).trans ek
      obtain ⟨p1, p2', p3, p4, p5, p6, -⟩ := hP
      obtain ⟨m3, v3', s3, k3, o3⟩ := rf_passage k2 (sB_KA b3 hk2) (by omega) p1 (by rw [ek3]; exact p2') p3 (by rw [ek3]; exact p4) p5 (by rw [ek3]; exact p6) bk
      rw [ek3] at k3
      have pl := psz_len (kp A) a b it bk
      have bb := b3.tr b2
      show ∃ μ', f_Mo_make_128 M m1 (iz k) (iz a) (iz b) (iz it) (iz (bI bk)) = _ ∧ _
      unfold f_Mo_make_128
      rw [rf_rc k1, Option.bind_some, s2, Option.bind_some, rf_rc k2, Option.bind_some, s3, Option.bind_some, rf_row k3, Option.bind_some, nI_iz, zi_24]
      by_cases e24 : (chl C k ++ psz (kp A) a b it bk).length ≤ 24
      · rw [if_pos ((iz_le (iR_s (by omega) (by omega)) (iR_s (by omega) (by omega))).mpr (by omega))]
        have e10 : mfI m3 (some M) [11] 10 = some (iz nl) := by rw [(rf_S10 k3).1, hS, nI_iz]
        by_cases eN : nl = 16
        · refine ⟨m3, ?_, (o1.tr o2).tr o3, fun q => absurd eN q.2.2.2, fun _ => ⟨A3, v3', _, bb, k3, by omega⟩⟩
          rw [e10, Option.bind_some, if_pos (by rw [eN]; rfl), if_neg (by omega), if_pos eN, zi_m8]
        · obtain ⟨m4, s4', k4, o4⟩ := rf_store k3 (nl := nl) (by omega) hS g
          rw [hg1, hg2, hg3, hg4, hg5] at s4'
          refine ⟨m4, ?_, ((o1.tr o2).tr o3).tr o4, fun _ => ⟨_, v3', _, lkA_sB bb nl g, k4, by omega⟩, fun q => absurd ⟨by omega, rfl, e24, eN⟩ q⟩
          refine (congrArg (fun o => Option.bind o _) e10).trans ?_
          rw [Option.bind_some, zi_16, if_neg (fun q => eN (by have := (iz_eq (iR_s (by omega) (by omega)) (iR_s (by omega) (by omega))).mp q; omega)), if_neg (by omega), if_neg eN]
          rw [← nI_iz]
          exact s4'
      · refine ⟨m3, ?_, (o1.tr o2).tr o3, fun q => absurd q.2.2.1 e24, fun _ => ⟨A3, v3', _, bb, k3, by rw [List.length_append] at *; omega⟩⟩
        rw [if_neg (fun q => e24 (by have := (iz_le (iR_s (by rw [List.length_append]; omega) (by rw [List.length_append]; omega)) (iR_s (by omega) (by omega))).mp q; omega)), if_pos (by omega), zi_m9]
end MAK
