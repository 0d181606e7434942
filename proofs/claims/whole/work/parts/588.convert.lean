/-! The reference's pieces, convert and after. -/
def lvb (x : Int) : Bool := decide (0 ≤ x ∧ x ≤ 65535)
def tok (gy : Bool) (a b c : Int) : Bool := lvb a && (gy || (lvb b && lvb c))
def tcl (gy : Bool) (a b c : Int) : Int → Int := v3 a (if gy then 0 else b) (if gy then 0 else c)
def pk (v : Int → Int) : Int := v 0 * 4294967296 + v 1 * 65536 + v 2
def FS (nl : Nat) (G : Nat → Lz) (F : Nat → Int) : Prop := ∀ k, k < nl → (F k = if (G k).1 < 0 then (G k).2.1 else F (G k).1.toNat) ∧ 0 ≤ F k ∧ F k < 6
def gyz (K : Int → Int) (p : Int) : Bool := decide (bp K p 3 = 1)
theorem tcl_R {gy : Bool} {a b c : Int} (h : tok gy a b c = true) : lv3 (tcl gy a b c) := by
  unfold tok at h
  rw [Bool.and_eq_true] at h
  have ha := of_decide_eq_true h.1
  cases gy with
  | true => exact v3_R ha l0 l0
  | false =>
    have h2 := h.2
    rw [Bool.false_or, Bool.and_eq_true] at h2
    have hb : 0 ≤ b ∧ b ≤ 65535 := of_decide_eq_true h2.1
    have hc : 0 ≤ c ∧ c ≤ 65535 := of_decide_eq_true h2.2
    exact v3_R ha hb hc
section CNV
variable {μ : mM} {M : Nat} {A : Nat → Nat → Int32} {S : Nat → Int32} {L : Nat → Int64} {v : Int → Int} {l : List Pz}
theorem mo_level {x : Int} (hx : iR x) : f_Mo_level μ M (iz x) = some (iz (bI (lvb x))) := by
  unfold f_Mo_level f_Mo_level_14 f_Mo_level_15 lvb
  by_cases h0 : x < 0
  · rw [zi_0, if_pos ((iz_lt hx (iR_s (by omega) (by omega))).mpr h0), decide_eq_false (by omega)]
    rfl
  · rw [zi_0, if_neg (fun q => h0 ((iz_lt hx (iR_s (by omega) (by omega))).mp q)), zi_65535]
    by_cases h1 : 65535 < x
    · rw [if_pos ((iz_lt (iR_s (by omega) (by omega)) hx).mpr h1), decide_eq_false (by omega)]
      rfl
    · rw [if_neg (fun q => h1 ((iz_lt (iR_s (by omega) (by omega)) hx).mp q)), decide_eq_true (by omega)]
      rfl
theorem rf_linked (h : RF μ M A S L v l) {nl : Nat} (hS : S 10 = nI nl) (hn : nl ≤ 16) {k : Int} (hk : iR k) : f_Mo_linked μ M (iz k) = some (iz (bI (decide (0 ≤ k ∧ k < nl)))) := by
  unfold f_Mo_linked f_Mo_linked_16 f_Mo_linked_17
  by_cases h0 : k < 0
  · rw [zi_0, if_pos ((iz_lt hk (iR_s (by omega) (by omega))).mpr h0), decide_eq_false (by omega)]
    rfl
  · rw [zi_0, if_neg (fun q => h0 ((iz_lt hk (iR_s (by omega) (by omega))).mp q)), (rf_S10 h).1, Option.bind_some, hS, nI_iz]
    by_cases h1 : nl ≤ k
    · rw [if_pos ((iz_le (iR_s (by omega) (by omega)) hk).mpr h1), decide_eq_false (by omega)]
      rfl
    · rw [if_neg (fun q => h1 ((iz_le (iR_s (by omega) (by omega)) hk).mp q)), decide_eq_true (by omega)]
      rfl
theorem rf_there (h : RF μ M A S L v l) {np : Nat} (hS : S 3 = nI np) (hn : np ≤ 6) {k : Int} (hk : iR k) : f_Mo_there μ M (iz k) = some (iz (bI (decide (0 ≤ k ∧ k < np)))) := by
  unfold f_Mo_there f_Mo_there_16 f_Mo_there_17
  by_cases h0 : k < 0
  · rw [zi_0, if_pos ((iz_lt hk (iR_s (by omega) (by omega))).mpr h0), decide_eq_false (by omega)]
    rfl
  · rw [zi_0, if_neg (fun q => h0 ((iz_lt hk (iR_s (by omega) (by omega))).mp q)), (rf_S10 h).2.1, Option.bind_some, hS, nI_iz]
    by_cases h1 : np ≤ k
    · rw [if_pos ((iz_le (iR_s (by omega) (by omega)) hk).mpr h1), decide_eq_false (by omega)]
      rfl
    · rw [if_neg (fun q => h1 ((iz_le (iR_s (by omega) (by omega)) hk).mp q)), decide_eq_true (by omega)]
      rfl
theorem rf_first {nl : Nat} {G : Nat → Lz} {F : Nat → Int} (h : RF μ M A S L v l) (hG : LT A nl G) (hF : FS nl G F) (kx : mM → Int32 → Int32 → Int32 → Int32 → Option (Int32 × mM)) {x2 x3 x4 : Int32} : ∀ (n fu k : Nat), k < n → n < fu → k < nl → ∃ r, f_Mo_taken_13 M kx fu μ x2 x3 x4 (nI k) = kx μ x2 x3 x4 (nI r) ∧ r < nl ∧ (G r).2.1 = F k := by
  intro n
  have hn16 := hG.1
  induction n with
  | zero => intro fu k h1; omega
  | succ n ih =>
    intro fu k h1 h2 h3
    obtain ⟨fu, rfl⟩ : ∃ m, fu = m + 1 := ⟨fu - 1, by omega⟩
    obtain ⟨a4, a5, a6, a7, a8, ap, al⟩ := hG.2 k h3
    have gs := rf_gs h (k := k) (by omega)
    have hf := (hF k h3).1
    by_cases e : (G k).1 < 0
    · refine ⟨k, ?_, h3, ?_⟩
      · rw [f_Mo_taken_13, (rf_fs h).1, Option.bind_some, gs.1, Option.bind_some, a4, zi_0, if_pos ((iz_lt (iR_s (by omega) (by omega)) (iR_s (by omega) (by omega))).mpr e)]
      · rw [hf, if_pos e]
    · obtain ⟨r, s1, r1, r2⟩ := ih fu (G k).1.toNat (by omega) (by omega) (by omega)
      refine ⟨r, ?_, r1, ?_⟩
      · rw [f_Mo_taken_13, (rf_fs h).1, Option.bind_some, gs.1, Option.bind_some, a4, zi_0, if_neg (fun q => by have := (iz_lt (iR_s (by omega) (by omega)) (iR_s (by omega) (by omega))).mp q; omega), Option.bind_some, gs.1, Option.bind_some, a4, iz_nat (by omega)]
        exact s1
      · rw [hf, if_neg e]
        exact r2
theorem rf_taken {nl : Nat} {G : Nat → Lz} {F : Nat → Int} (h : RF μ M A S L v l) (hk : KA A) (hG : LT A nl G) (hF : FS nl G F) (hS : S 10 = nI nl) {k : Nat} (hkn : k < nl) {a b c : Int} (ha : iR a) (hb : iR b) (hc : iR c) : ∃ μ' v', f_Mo_taken M μ (nI k) (iz a) (iz b) (iz c) = some (iz (bI (tok (gyz (kp A) (F k)) a b c)), μ') ∧ RF μ' M A S L v' l ∧ (tok (gyz (kp A) (F k)) a b c = true → v' = tcl (gyz (kp A) (F k)) a b c) ∧ Out M μ μ' := by
  have hn16 := hG.1
  have kr := rf_KR h hk
  have rc := rf_rc h
  obtain ⟨r, s1, r1, r2⟩ := rf_first h hG hF (fun μ y2 y3 y4 y5 => f_Mo_taken_35 M μ y2 y3 y4 y5) (x2 := iz a) (x3 := iz b) (x4 := iz c) 16 4096 k (by omega) (by omega) hkn
  obtain ⟨a4, a5, a6, a7, a8, ap, al⟩ := hG.2 r r1
  have gs := rf_gs h (k := r) (by omega)
  have f6 := (hF k hkn).2
  have e0 : f_Mo_taken M μ (nI k) (iz a) (iz b) (iz c) = f_Mo_taken_35 M μ (iz a) (iz b) (iz c) (nI r) := by
    unfold f_Mo_taken
    rw [rc, Option.bind_some]
    have := rf_linked h hS hn16 (k := (k : Int)) (iR_s (by omega) (by omega))
    rw [← nI_iz] at this
    rw [this, Option.bind_some, decide_eq_true (by omega), if_neg (by decide)]
    exact s1
  have esg : f_Mo_single μ M (iz (F k)) = some (iz (bI (gyz (kp A) (F k)))) := by
    rw [km_single kr f6.1 f6.2]
    unfold gyz bI
    by_cases e : bp (kp A) (F k) 3 = 1
    · rw [if_pos e, decide_eq_true e, if_pos rfl]
    · rw [if_neg e, decide_eq_false e, if_neg (by decide)]
  rw [e0]
  unfold f_Mo_taken_35 f_Mo_taken_78
  rw [(rf_fs h).2.1, Option.bind_some, gs.2.1, Option.bind_some, a5, r2, rc, Option.bind_some, esg, Option.bind_some, Option.bind_some, mo_level ha, Option.bind_some, Option.bind_some, mo_level hb, Option.bind_some, Option.bind_some, mo_level hc, Option.bind_some]
  generalize gyz (kp A) (F k) = gy
  have fin : ∀ (t : Bool), t = true → lvb a = true → (gy = false → lvb b = true ∧ lvb c = true) → ∃ μ' v', f_Mo_taken_80 M μ (iz a) (iz b) (iz c) (iz (bI gy)) = some (iz (bI t), μ') ∧ RF μ' M A S L v' l ∧ (t = true → v' = tcl gy a b c) ∧ Out M μ μ' := by
    intro t ht hla hlbc
    subst ht
    obtain ⟨m1, t1, k1, o1⟩ := rf_sv h (i := 0) (by omega) (by omega) a
    obtain ⟨m2, t2, k2, o2⟩ := rf_sv k1 (i := 1) (by omega) (by omega) (if gy then 0 else b)
    obtain ⟨m3, t3, k3, o3⟩ := rf_sv k2 (i := 2) (by omega) (by omega) (if gy then 0 else c)
    refine ⟨m3, tcl gy a b c, ?_, rf_ext k3 (lt3 (by simp [zu, tcl, v3]) (by simp [zu, tcl, v3]) (by simp [zu, tcl, v3])), fun _ => rfl, (o1.tr o2).tr o3⟩
    unfold f_Mo_taken_80 f_Mo_taken_104 f_Mo_taken_122
    rw [rf_f18 h, Option.bind_some, iz_j ha, zi_0, t1, Option.bind_some, rf_f18 k1, Option.bind_some]
    cases gy with
    | true =>
      rw [if_neg (by decide), zi_1, zj_0]
      rw [if_pos rfl] at t2 t3
      rw [t2, Option.bind_some, rf_f18 k2, Option.bind_some, if_neg (by decide), zi_2, t3, Option.bind_some]
      rfl
    | false =>
      rw [if_pos (by decide), zi_1, iz_j hb]
      rw [if_neg (by decide)] at t2 t3
      rw [t2, Option.bind_some, rf_f18 k2, Option.bind_some, if_pos (by decide), zi_2, iz_j hc, t3, Option.bind_some]
      rfl
  unfold tok
  cases hla : lvb a with
  | false =>
    refine ⟨μ, v, ?_, h, fun q => by simp at q, Out.rf⟩
    rw [if_pos (by decide)]
    rfl
  | true =>
    rw [if_neg (by decide), Bool.true_and]
    cases hgy : gy with
    | true =>
      rw [if_neg (by decide)]
      have := fin true rfl hla (fun q => by rw [hgy] at q; cases q)
      rw [hgy] at this
      exact this
    | false =>
      rw [if_pos (by decide), Bool.false_or]
      cases hlb : lvb b with
      | false =>
        refine ⟨μ, v, ?_, h, fun q => by simp at q, Out.rf⟩
        rw [if_pos (by decide)]
        rfl
      | true =>
        rw [if_neg (by decide), Bool.true_and]
        cases hlc : lvb c with
        | false =>
          refine ⟨μ, v, ?_, h, fun q => by simp at q, Out.rf⟩
          rw [if_pos (by decide)]
          rfl
        | true =>
          rw [if_neg (by decide)]
          have := fin true rfl hla (fun _ => ⟨hlb, hlc⟩)
          rw [hgy] at this
          exact this
theorem rf_colour (h : RF μ M A S L v l) : ((mrc μ (some M) 11).bind fun a => f_Mo_colour μ a) = some (jz (pk v)) := by
  unfold f_Mo_colour
  rw [rf_rc h, Option.bind_some, rf_f18 h, Option.bind_some, zi_0, rf_gv h (by omega) (by omega), Option.bind_some, Option.bind_some, zi_1, rf_gv h (by omega) (by omega), Option.bind_some, Option.bind_some, zi_2, rf_gv h (by omega) (by omega), Option.bind_some, zj_4294967296, zj_65536, jz_mul, jz_mul, jz_add, jz_add]
  rfl
theorem rf_thrL (hk : KA A) (hl : l.length ≤ 40) (hv : ∀ q ∈ l, pv (kp A) q) (kx : mM → Option (Int64 × mM)) {N : Nat} (hN : N ≤ l.length) : ∀ (j fu i : Nat) (μ : mM) (v : Int → Int), j < fu → i + j = N → RF μ M A S L v l → lv3 v → ∃ μ', f_Mo_through_14 M kx fu μ (nI N) (nI i) = kx μ' ∧ RF μ' M A S L (runz (kp A) ((l.drop i).take j) v) l ∧ Out M μ μ' := by
  intro j
  induction j with
  | zero =>
    intro fu i μ v hf hi h hc
    obtain ⟨fu, rfl⟩ : ∃ m, fu = m + 1 := ⟨fu - 1, by omega⟩
    refine ⟨μ, ?_, by rw [List.take_zero]; exact h, Out.rf⟩
    rw [f_Mo_through_14, if_pos ((nIz_le (by omega) (by omega)).mpr (by omega))]
  | succ j ih =>
    intro fu i μ v hf hi h hc
    obtain ⟨fu, rfl⟩ : ∃ m, fu = m + 1 := ⟨fu - 1, by omega⟩
    have hil : i < l.length := by omega
    have hp := hv _ (List.getElem_mem hil)
    obtain ⟨m1, s1, k1, o1⟩ := rf_run h hk (List.getElem?_eq_getElem hil) (by omega) hp hc
    obtain ⟨m2, s2, k2, o2⟩ := ih fu (i + 1) m1 _ (by omega) (by omega) k1 (pfz_R hp hc)
    refine ⟨m2, ?_, ?_, o1.tr o2⟩
    · rw [f_Mo_through_14, if_neg (fun q => by have := (nIz_le (by omega) (by omega)).mp q; omega), rf_rc h, Option.bind_some, s1, Option.bind_some, nI_s]
      exact s2
    · rw [List.drop_eq_getElem_cons hil, List.take_succ_cons]
      exact k2
theorem rf_through {nl : Nat} {G : Nat → Lz} {F : Nat → Int} (h : RF μ M A S L v l) (hk : KA A) (hG : LT A nl G) (hF : FS nl G F) (hS : S 10 = nI nl) {k : Nat} (hkn : k < nl) {a b c : Int} (ha : iR a) (hb : iR b) (hc : iR c) (ht : tok (gyz (kp A) (F k)) a b c = true) (hl : l.length ≤ 40) (hv : ∀ q ∈ l, pv (kp A) q) {N : Nat} (hN : N ≤ l.length) : ∃ μ' v', f_Mo_through M μ (nI k) (nI N) (iz a) (iz b) (iz c) = some (jz (pk (runz (kp A) (l.take N) (tcl (gyz (kp A) (F k)) a b c))), μ') ∧ RF μ' M A S L v' l ∧ Out M μ μ' := by
  obtain ⟨m1, v1, s1, k1, e1, o1⟩ := rf_taken h hk hG hF hS hkn ha hb hc
  rw [e1 ht] at k1
  obtain ⟨m2, s2, k2, o2⟩ := rf_thrL hk hl hv (fun μ => f_Mo_through_32 M μ) hN N 4096 0 m1 _ (by omega) (by omega) k1 (tcl_R ht)
  rw [List.drop_zero] at k2
  refine ⟨m2, _, ?_, k2, o1.tr o2⟩
  unfold f_Mo_through
  rw [rf_rc h, Option.bind_some, s1, Option.bind_some]
  refine (show f_Mo_through_14 M _ 4096 m1 (nI N) (0 : Int32) = _ from s2).trans ?_
  unfold f_Mo_through_32
  rw [rf_colour k2, Option.bind_some]
theorem rf_setw (h : RF μ M A S L v l) (x : Int32) : ∃ μ', mpI μ (some M) [11] 11 x = some μ' ∧ RF μ' M A (va_up S 11 x) L v l ∧ Out M μ μ' := by
  obtain ⟨A', S', o, m, ⟨J, h1, h2⟩, h3, ⟨c1, c3, c10, c11⟩, h5, h6⟩ := h
  refine ⟨_, mo_p11 h1 _, ⟨A', _, o, m, ⟨J, mo_w11 h1 _, h2⟩, h3, ?_, ?_, h6⟩, fun b hb => mup_ne _ _ (by omega)⟩
  · unfold sS
    simp [va_up, c1, c3, c10]
  · simp [va_up, h5]
theorem rf_setL (h : RF μ M A S L v l) {k : Nat} (hk : k < 16) (x : Int64) : ∃ μ', mfA μ (some M) [11] 9 = some (some (M + 8)) ∧ mgJ μ (some (M + 8)) (nI k) = some (L k) ∧ msJ μ (some (M + 8)) (nI k) x = some μ' ∧ RF μ' M A S (vp_updL L k x) v l ∧ Out M μ μ' := by
  obtain ⟨A', S', o, m, ⟨J, h1, h9, h18, h19, h20⟩, h3⟩ := h
  refine ⟨_, mo_f9 h1, by rw [mo_g9 h1 hk, h9], mo_s9 h1 hk, ⟨A', S', o, m, ⟨_, mo_u9 h1 _, ?_, h18, h19, h20⟩, h3⟩, fun b hb => mup_ne _ _ (by omega)⟩
  simp [va_up, h9]
theorem rb_convert {nl : Nat} {G : Nat → Lz} {C : Nat → List Pz} {F : Nat → Int} (h : RB μ M A S L) (hk : KA A) (hG : LT A nl G) (hC : CH (kp A) nl G C) (hF : FS nl G F) (hS : S 10 = nI nl) {k : Nat} (hkn : k < nl) {a b c : Int} (ha : iR a) (hb : iR b) (hc : iR c) : (tok (gyz (kp A) (F k)) a b c = false → ∃ μ', f_Mo_convert M μ (nI k) (iz a) (iz b) (iz c) = some (-1, μ') ∧ RB μ' M A S L ∧ Out M μ μ') ∧ (tok (gyz (kp A) (F k)) a b c = true → ∃ μ', f_Mo_convert M μ (nI k) (iz a) (iz b) (iz c) = some (jz (pk (runz (kp A) (C k) (tcl (gyz (kp A) (F k)) a b c))), μ') ∧ RB μ' M A (va_up S 11 (if L k = jz (pk (tcl (gyz (kp A) (F k)) a b c)) then S 11 else S 11 + nI (C k).length)) (vp_updL L k (jz (pk (tcl (gyz (kp A) (F k)) a b c)))) ∧ Out M μ μ') := by
  have hn16 := hG.1
  obtain ⟨A2, v, l, b2, hR, hl⟩ := h
  have ek := sB_kp b2
  have hk2 := sB_KA b2 hk
  have hG2 := sB_LT b2 hG
  obtain ⟨m1, v1, s1, k1, e1, o1⟩ := rf_taken hR hk2 hG2 hF hS hkn ha hb hc
  rw [ek] at s1 e1
  unfold f_Mo_convert
  rw [rf_rc hR, Option.bind_some, s1, Option.bind_some]
  refine ⟨fun ht => ?_, fun ht => ?_⟩
  · refine ⟨m1, ?_, ⟨A2, v1, l, b2, k1, hl⟩, o1⟩
    rw [ht, if_pos (show iz (bI false) = 0 by decide)]
  · obtain ⟨m2, A3, v2, s2, k2, b3, o2⟩ := rf_lay k1 hk2 hG2 (by rw [ek]; exact hC) (k := (k : Int)) (by omega) (by omega)
    have ec : chl C (k : Int) = C k := by
      unfold chl
      rw [if_neg (by omega), Int.toNat_natCast]
    rw [ec] at k2
    rw [e1 ht] at k1
    obtain ⟨-, cl, -⟩ := hC k hkn
    have ek3 : kp A3 = kp A := (sB_kp b3).trans ek
    have hk3 := sB_KA b3 hk2
    have hG3 := sB_LT b3 hG2
    have hvC : ∀ q ∈ C k, pv (kp A) q := by
      have := chl_pv hC (fun x hx => (hG.2 x hx).2.2.2.2.2.2) nl (k : Int) (by omega) (by omega)
      rw [ec] at this
      exact this
    obtain ⟨w, hw⟩ : ∃ w, w = (if L k = jz (pk (tcl (gyz (kp A) (F k)) a b c)) then S 11 else S 11 + nI (C k).length) := ⟨_, rfl⟩
    obtain ⟨m3, s3, k3, o3⟩ := rf_setw k2 w
    obtain ⟨m4, t1, t2, s4', k4, o4⟩ := rf_setL k3 (k := k) (by omega) (jz (pk (tcl (gyz (kp A) (F k)) a b c)))
    obtain ⟨m4', t1', t2', -⟩ := rf_setL k2 (k := k) (by omega) 0
    obtain ⟨m5, v5, s5, k5, o5⟩ := rf_through k4 hk3 hG3 hF (by show va_up S 11 w 10 = nI nl; simp [va_up, hS]) hkn ha hb hc (by rw [ek3]; exact ht) (by omega) (by rw [ek3]; exact hvC) (Nat.le_refl _)
    rw [ek3, List.take_length] at s5
    rw [← hw]
    refine ⟨m5, ?_, ⟨A3, v5, C k, b3.tr b2, k5, by omega⟩, (((o1.tr o2).tr o3).tr o4).tr o5⟩
    rw [ht, if_neg (show ¬ iz (bI true) = 0 by decide)]
    change (((mrc m1 (some M) 11).bind fun a => f_Mo_colour m1 a).bind fun q2 => ((mrc m1 (some M) 11).bind fun a => f_Mo_lay a m1 (nI k)).bind _) = _
    have f56 : f_Mo_convert_56 M m2 (nI k) (iz a) (iz b) (iz c) (jz (pk (tcl (gyz (kp A) (F k)) a b c))) (some M) w = some (jz (pk (runz (kp A) (C k) (tcl (gyz (kp A) (F k)) a b c))), m5) := by
      unfold f_Mo_convert_56
      rw [s3, Option.bind_some, t1, Option.bind_some, s4', Option.bind_some, rf_row k4, Option.bind_some, rf_rc k4, Option.bind_some, s5, Option.bind_some]
    rw [rf_colour k1, Option.bind_some, rf_rc k1, Option.bind_some, nI_iz, s2, Option.bind_some, ← nI_iz, t1', Option.bind_some, t2', Option.bind_some]
    by_cases e : L k = jz (pk (tcl (gyz (kp A) (F k)) a b c))
    · rw [if_pos e, (rf_S10 k2).2.2.1, Option.bind_some]
      rw [if_pos e] at hw
      rw [← hw]
      exact f56
    · rw [if_neg e, (rf_S10 k2).2.2.1, Option.bind_some, rf_row k2, Option.bind_some]
      rw [if_neg e] at hw
      rw [← hw]
      exact f56
theorem rb_after {nl : Nat} {G : Nat → Lz} {C : Nat → List Pz} {F : Nat → Int} (h : RB μ M A S L) (hk : KA A) (hG : LT A nl G) (hC : CH (kp A) nl G C) (hF : FS nl G F) (hS : S 10 = nI nl) {k : Nat} (hkn : k < nl) {n a b c : Int} (hn : iR n) (ha : iR a) (hb : iR b) (hc : iR c) : ∃ μ', f_Mo_after M μ (nI k) (iz n) (iz a) (iz b) (iz c) = some (if tok (gyz (kp A) (F k)) a b c = true ∧ 0 ≤ n ∧ n ≤ (C k).length then jz (pk (runz (kp A) ((C k).take n.toNat) (tcl (gyz (kp A) (F k)) a b c))) else -1, μ') ∧ RB μ' M A S L ∧ Out M μ μ' := by
  have hn16 := hG.1
  obtain ⟨A2, v, l, b2, hR, hl⟩ := h
  have ek := sB_kp b2
  have hk2 := sB_KA b2 hk
  have hG2 := sB_LT b2 hG
  obtain ⟨m1, v1, s1, k1, e1, o1⟩ := rf_taken hR hk2 hG2 hF hS hkn ha hb hc
  rw [ek] at s1 e1
  unfold f_Mo_after f_Mo_after_34 f_Mo_after_51
  rw [rf_rc hR, Option.bind_some, s1, Option.bind_some]
  cases ht : tok (gyz (kp A) (F k)) a b c with
  | false =>
    refine ⟨m1, ?_, ⟨A2, v1, l, b2, k1, hl⟩, o1⟩
    rw [if_pos (show iz (bI false) = 0 by decide), if_neg (fun q => by cases q.1)]
  | true =>
    obtain ⟨m2, A3, v2, s2, k2, b3, o2⟩ := rf_lay k1 hk2 hG2 (by rw [ek]; exact hC) (k := (k : Int)) (by omega) (by omega)
    have ec : chl C (k : Int) = C k := by
      unfold chl
      rw [if_neg (by omega), Int.toNat_natCast]
    rw [ec] at k2
    obtain ⟨-, cl, -⟩ := hC k hkn
    have ek3 : kp A3 = kp A := (sB_kp b3).trans ek
    have hk3 := sB_KA b3 hk2
    have hG3 := sB_LT b3 hG2
    have hvC : ∀ q ∈ C k, pv (kp A) q := by
      have := chl_pv hC (fun x hx => (hG.2 x hx).2.2.2.2.2.2) nl (k : Int) (by omega) (by omega)
      rw [ec] at this
      exact this
    rw [if_neg (show ¬ iz (bI true) = 0 by decide)]
    change ∃ μ', (((mrc m1 (some M) 11).bind fun a => f_Mo_lay a m1 (nI k)).bind _) = _ ∧ _
    rw [rf_rc k1, Option.bind_some, nI_iz, s2, Option.bind_some, ← nI_iz]
    by_cases n0 : n < 0
    · refine ⟨m2, ?_, ⟨A3, v2, C k, b3.tr b2, k2, by omega⟩, o1.tr o2⟩
      rw [zi_0, if_pos ((iz_lt hn (iR_s (by omega) (by omega))).mpr n0), if_neg (by omega)]
    · rw [zi_0, if_neg (fun q => n0 ((iz_lt hn (iR_s (by omega) (by omega))).mp q)), rf_row k2, Option.bind_some, nI_iz (C k).length]
      by_cases n1 : n ≤ (C k).length
      · obtain ⟨m5, v5, s5, k5, o5⟩ := rf_through k2 hk3 hG3 hF hS hkn ha hb hc (by rw [ek3]; exact ht) (by omega) (by rw [ek3]; exact hvC) (N := n.toNat) (by omega)
        rw [ek3] at s5
        refine ⟨m5, ?_, ⟨A3, v5, C k, b3.tr b2, k5, by omega⟩, (o1.tr o2).tr o5⟩
        rw [if_pos ((iz_le hn (iR_s (by omega) (by omega))).mpr n1), rf_rc k2, Option.bind_some, iz_nat (by omega : 0 ≤ n), s5, Option.bind_some, if_pos ⟨rfl, by omega, n1⟩]
      · refine ⟨m2, ?_, ⟨A3, v2, C k, b3.tr b2, k2, by omega⟩, o1.tr o2⟩
        rw [if_neg (fun q => n1 ((iz_le hn (iR_s (by omega) (by omega))).mp q)), if_neg (by omega)]
end CNV
