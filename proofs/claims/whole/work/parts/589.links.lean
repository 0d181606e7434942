/-! The reference's calls about links, whatever their arguments are. -/
section LNK
variable {μ : mM} {M : Nat} {A : Nat → Nat → Int32} {S : Nat → Int32} {L : Nat → Int64}
theorem rb_linked (h : RB μ M A S L) {nl : Nat} (hS : S 10 = nI nl) (hn : nl ≤ 16) {k : Int} (hk : iR k) : ((mrc μ (some M) 11).bind fun a => f_Mo_linked μ a (iz k)) = some (iz (bI (decide (0 ≤ k ∧ k < nl)))) := by
  obtain ⟨A2, v, l, b2, hR, hl⟩ := h
  rw [rf_rc hR, Option.bind_some, rf_linked hR hS hn hk]
theorem rb_there (h : RB μ M A S L) {np : Nat} (hS : S 3 = nI np) (hn : np ≤ 6) {k : Int} (hk : iR k) : ((mrc μ (some M) 11).bind fun a => f_Mo_there μ a (iz k)) = some (iz (bI (decide (0 ≤ k ∧ k < np)))) := by
  obtain ⟨A2, v, l, b2, hR, hl⟩ := h
  rw [rf_rc hR, Option.bind_some, rf_there hR hS hn hk]
theorem rb_rc (h : RB μ M A S L) : mrc μ (some M) 11 = some M := by
  obtain ⟨A2, v, l, b2, hR, hl⟩ := h
  exact rf_rc hR
theorem rb_S (h : RB μ M A S L) : mfI μ (some M) [11] 10 = some (S 10) ∧ mfI μ (some M) [11] 3 = some (S 3) ∧ mfI μ (some M) [11] 11 = some (S 11) ∧ mfI μ (some M) [11] 1 = some (S 1) := by
  obtain ⟨A2, v, l, b2, hR, hl⟩ := h
  exact rf_S10 hR
theorem rb_lay {nl : Nat} {G : Nat → Lz} {C : Nat → List Pz} (h : RB μ M A S L) (hk : KA A) (hG : LT A nl G) (hC : CH (kp A) nl G C) {k : Nat} (hkn : k < nl) : ∃ μ', ((mrc μ (some M) 11).bind fun a => f_Mo_lay a μ (nI k)) = some μ' ∧ mfI μ' (some M) [11] 16 = some (nI (C k).length) ∧ mfA μ' (some M) [11] 12 = some (some (M + 9)) ∧ (∀ (j : Nat) (q : Pz), (C k)[j]? = some q → mgI μ' (some (M + 9)) (nI j) = some (iz q.1)) ∧ RB μ' M A S L ∧ Out M μ μ' := by
  obtain ⟨A2, v, l, b2, hR, hl⟩ := h
  obtain ⟨m2, A3, v2, s2, k2, b3, o2⟩ := rf_lay hR (sB_KA b2 hk) (sB_LT b2 hG) (by rw [sB_kp b2]; exact hC) (k := (k : Int)) (by omega) (by omega)
  have ec : chl C (k : Int) = C k := by
    unfold chl
    rw [if_neg (by omega), Int.toNat_natCast]
  rw [ec] at k2
  obtain ⟨-, cl, -⟩ := hC k hkn
  refine ⟨m2, by rw [rf_rc hR, Option.bind_some, nI_iz]; exact s2, rf_row k2, ?_, fun j q hq => ?_, ⟨A3, v2, _, b3.tr b2, k2, by omega⟩, o2⟩
  · obtain ⟨A', S', o, m, h1, h3, h4, h5, h6⟩ := k2
    exact (nm_fs h1).2.1
  · obtain ⟨A', S', o, m, h1, h3, h4, h5, h6⟩ := k2
    have hj := (List.getElem?_eq_some_iff.mp hq).1
    rw [(nm_gs h1 (k := j) (by omega)).1, (h6 j q hq).1]
theorem rb_pieces {nl : Nat} {G : Nat → Lz} {C : Nat → List Pz} (h : RB μ M A S L) (hk : KA A) (hG : LT A nl G) (hC : CH (kp A) nl G C) (hS : S 10 = nI nl) {k : Int} (hki : iR k) : ∃ μ', f_Mo_pieces M μ (iz k) = some (iz (if 0 ≤ k ∧ k < nl then ((C k.toNat).length : Int) else -1), μ') ∧ RB μ' M A S L ∧ Out M μ μ' := by
  unfold f_Mo_pieces
  rw [rb_linked h hS hG.1 hki, Option.bind_some]
  by_cases e : 0 ≤ k ∧ k < nl
  · obtain ⟨m1, s1, r1, -, -, k1, o1⟩ := rb_lay h hk hG hC (k := k.toNat) (by omega)
    refine ⟨m1, ?_, k1, o1⟩
    rw [decide_eq_true e, if_neg (by decide), iz_nat e.1, s1, Option.bind_some, r1, Option.bind_some, if_pos e, nI_iz]
  · refine ⟨μ, ?_, h, Out.rf⟩
    rw [decide_eq_false e, if_pos (by decide), if_neg e, zi_m1]
theorem rb_piece {nl : Nat} {G : Nat → Lz} {C : Nat → List Pz} (h : RB μ M A S L) (hk : KA A) (hG : LT A nl G) (hC : CH (kp A) nl G C) (hS : S 10 = nI nl) {k j : Int} (hki : iR k) (hj : iR j) : ∃ μ', f_Mo_piece M μ (iz k) (iz j) = some (iz (if 0 ≤ k ∧ k < nl ∧ 0 ≤ j then (match (C k.toNat)[j.toNat]? with | some q => q.1 | none => -1) else -1), μ') ∧ RB μ' M A S L ∧ Out M μ μ' := by
  unfold f_Mo_piece f_Mo_piece_15 f_Mo_piece_25
  rw [rb_rc h, Option.bind_some]
  unfold f_Mo_pieces
  rw [rb_linked h hS hG.1 hki, Option.bind_some]
  by_cases e : 0 ≤ k ∧ k < nl
  · obtain ⟨m1, s1, r1, f12, g12, k1, o1⟩ := rb_lay h hk hG hC (k := k.toNat) (by omega)
    obtain ⟨-, cl, -⟩ := hC k.toNat (by omega)
    refine ⟨m1, ?_, k1, o1⟩
    rw [decide_eq_true e, if_neg (by decide), iz_nat e.1, s1, Option.bind_some, r1, Option.bind_some, Option.bind_some]
    by_cases j0 : j < 0
    · rw [zi_0, if_pos ((iz_lt hj (iR_s (by omega) (by omega))).mpr j0), if_neg (show ¬ (0 ≤ k ∧ k < nl ∧ 0 ≤ j) by omega), zi_m1]
    · rw [zi_0, if_neg (fun q => j0 ((iz_lt hj (iR_s (by omega) (by omega))).mp q)), if_pos (show 0 ≤ k ∧ k < nl ∧ 0 ≤ j by omega)]
      change (if iz j < nI (C k.toNat).length then (mfA m1 (some M) [11] 12).bind _ else _) = _
      rw [nI_iz]
      by_cases j1 : j < (C k.toNat).length
      · have hjl : j.toNat < (C k.toNat).length := by omega
        have hq := List.getElem?_eq_getElem hjl
        rw [if_pos ((iz_lt hj (iR_s (by omega) (by omega))).mpr j1), f12, Option.bind_some]
        change (mgI m1 (some (M + 9)) (iz j)).bind _ = _
        rw [iz_nat (by omega : 0 ≤ j), g12 _ _ hq, Option.bind_some, hq]
      · rw [if_neg (fun q => j1 ((iz_lt hj (iR_s (by omega) (by omega))).mp q)), List.getElem?_eq_none (by omega), zi_m1]
  · refine ⟨μ, ?_, h, Out.rf⟩
    rw [decide_eq_false e, if_pos (by decide), Option.bind_some, if_neg (show ¬ (0 ≤ k ∧ k < nl ∧ 0 ≤ j) by omega)]
    change (if iz j < 0 then some ((-1 : Int32), μ) else if iz j < (-1 : Int32) then _ else some ((-1 : Int32), μ)) = _
    by_cases j0 : j < 0
    · rw [zi_0, if_pos ((iz_lt hj (iR_s (by omega) (by omega))).mpr j0), zi_m1]
    · rw [zi_0, if_neg (fun q => j0 ((iz_lt hj (iR_s (by omega) (by omega))).mp q)), zi_m1, if_neg (fun q => by have := (iz_lt hj (iR_s (by omega) (by omega))).mp q; omega)]
theorem rb_link {nl np : Nat} {G : Nat → Lz} {C : Nat → List Pz} (h : RB μ M A S L) (hk : KA A) (hG : LT A nl G) (hC : CH (kp A) nl G C) (hGR : ∀ k, k < nl → iR (G k).2.1 ∧ iR (G k).2.2.1 ∧ iR (G k).2.2.2.1) (hS : S 10 = nI nl) (hS3 : S 3 = nI np) (hnp : np ≤ 6) (hW : ∀ p : Int, 0 ≤ p → p < np → WB (bp (kp A) p)) {a b it : Int} (hai : iR a) (hbi : iR b) (hi : iR it) (as : Bool) {g : Lz} (hg : g = (-1, a, b, it, as && decide (it ≠ 3))) : (¬ ((0 ≤ a ∧ a < np) ∧ 0 ≤ b ∧ b < np) → f_Mo_link M μ (iz a) (iz b) (iz it) (iz (bI as)) = some (iz (-1), μ)) ∧ (((0 ≤ a ∧ a < np) ∧ 0 ≤ b ∧ b < np) → ∃ μ', f_Mo_link M μ (iz a) (iz b) (iz it) (iz (bI as)) = some (iz (mkA (kp A) nl G C g), μ') ∧ Out M μ μ' ∧ (mkB (kp A) nl G C g → RB μ' M (lkA A nl g) (va_up S 10 (nI (nl + 1))) (vp_updL L nl (jz (-1)))) ∧ (¬ mkB (kp A) nl G C g → RB μ' M A S L)) := by
  unfold f_Mo_link f_Mo_link_16
  rw [rb_there h hS3 hnp hai, Option.bind_some, rb_there h hS3 hnp hbi, Option.bind_some]
  refine ⟨fun q => ?_, fun q => ?_⟩
  · by_cases e : 0 ≤ a ∧ a < np
    · rw [decide_eq_true e, if_neg (by decide), decide_eq_false (fun w => q ⟨e, w⟩), if_pos (by decide), zi_m1]
    · rw [decide_eq_false e, if_pos (by decide), zi_m1]
  · obtain ⟨m1, s1, o1, k1, k2⟩ := rf_make h hk hG hC hGR hS (k := -1) (by omega) (by omega) (a := a) (b := b) ⟨by omega, by omega⟩ (hW a q.1.1 q.1.2) ⟨by omega, by omega⟩ (hW b q.2.1 q.2.2) hi as hg
    refine ⟨m1, ?_, o1, k1, k2⟩
    rw [decide_eq_true q.1, if_neg (by decide), decide_eq_true q.2, if_neg (by decide), rb_rc h, Option.bind_some, zi_m1, s1, Option.bind_some]
theorem rb_extend {nl np : Nat} {G : Nat → Lz} {C : Nat → List Pz} (h : RB μ M A S L) (hk : KA A) (hG : LT A nl G) (hC : CH (kp A) nl G C) (hGR : ∀ k, k < nl → iR (G k).2.1 ∧ iR (G k).2.2.1 ∧ iR (G k).2.2.2.1) (hS : S 10 = nI nl) (hS3 : S 3 = nI np) (hnp : np ≤ 6) (hW : ∀ p : Int, 0 ≤ p → p < np → WB (bp (kp A) p)) {k b it : Int} (hki : iR k) (hbi : iR b) (hi : iR it) (as : Bool) {g : Lz} (hg : g = (k, (G k.toNat).2.2.1, b, it, as && decide (it ≠ 3))) : (¬ ((0 ≤ k ∧ k < nl) ∧ 0 ≤ b ∧ b < np) → f_Mo_extend M μ (iz k) (iz b) (iz it) (iz (bI as)) = some (iz (-1), μ)) ∧ (((0 ≤ k ∧ k < nl) ∧ 0 ≤ b ∧ b < np) → ∃ μ', f_Mo_extend M μ (iz k) (iz b) (iz it) (iz (bI as)) = some (iz (mkA (kp A) nl G C g), μ') ∧ Out M μ μ' ∧ (mkB (kp A) nl G C g → RB μ' M (lkA A nl g) (va_up S 10 (nI (nl + 1))) (vp_updL L nl (jz (-1)))) ∧ (¬ mkB (kp A) nl G C g → RB μ' M A S L)) := by
  unfold f_Mo_extend f_Mo_extend_16
  rw [rb_linked h hS hG.1 hki, Option.bind_some, rb_there h hS3 hnp hbi, Option.bind_some]
  refine ⟨fun q => ?_, fun q => ?_⟩
  · by_cases e : 0 ≤ k ∧ k < nl
    · rw [decide_eq_true e, if_neg (by decide), decide_eq_false (fun w => q ⟨e, w⟩), if_pos (by decide), zi_m1]
    · rw [decide_eq_false e, if_pos (by decide), zi_m1]
  · obtain ⟨-, -, hpo⟩ := hC k.toNat (by omega)
    obtain ⟨m1, s1, o1, k1, k2⟩ := rf_make h hk hG hC hGR hS (k := k) (by omega) q.1.2 (a := (G k.toNat).2.2.1) (b := b) hpo.2.2.1 hpo.2.2.2.1 ⟨by omega, by omega⟩ (hW b q.2.1 q.2.2) hi as hg
    refine ⟨m1, ?_, o1, k1, k2⟩
    have hg6 := (hG.2 k.toNat (by omega)).2.2.1
    have e6 : mfA μ (some M) [11] 6 = some (some (M + 5)) ∧ mgI μ (some (M + 5)) (iz k) = some (iz (G k.toNat).2.2.1) := by
      obtain ⟨A2, v, l, b2, hR, hl⟩ := h
      refine ⟨(rf_fs hR).2.2.1, ?_⟩
      have h16 := hG.1
      rw [iz_nat q.1.1, (rf_gs hR (by omega)).2.2.1, b2.2.2.2.2.1, hg6]
    rw [decide_eq_true q.1, if_neg (by decide), decide_eq_true q.2, if_neg (by decide), e6.1, Option.bind_some, e6.2, Option.bind_some, rb_rc h, Option.bind_some, s1, Option.bind_some]
end LNK
