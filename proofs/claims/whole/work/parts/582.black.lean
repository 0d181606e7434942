/-! The reference's black level, other white, refusal, passage. -/
def blp (b : Int → Int) (p : Int) : List Pz := if b 4 = 1 then [(6, p, 0, 0)] else []
def blz (K : Int → Int) (p it : Int) : Int := runz K (fth (bp K p) p it ++ blp (bp K p) p) (fun _ => 0) 1
theorem nI_s (n : Nat) : nI n + (1 : Int32) = nI (n + 1) := by
  rw [nI_iz, nI_iz, zi_1, iz_add]
  rfl
theorem nIz_le {a b : Nat} (ha : a < 1000000) (hb : b < 1000000) : nI a ≤ nI b ↔ a ≤ b := by
  rw [nI_iz, nI_iz, iz_le (iR_s (by omega) (by omega)) (iR_s (by omega) (by omega))]
  omega
theorem blp_pv {K : Int → Int} {p it : Int} (hp : 0 ≤ p ∧ p < 6) (hb : WB (bp K p)) (hi : 0 ≤ it ∧ it ≤ 3) : ∀ q ∈ fth (bp K p) p it ++ blp (bp K p) p, pv K q := by
  intro q hq
  rw [List.mem_append] at hq
  rcases hq with hq | hq
  · exact fth_pv hp hb hi q hq
  · unfold blp at hq
    split at hq
    · rw [List.mem_singleton] at hq
      subst hq
      exact ⟨hp.1, hp.2, hb, by simp⟩
    · cases hq
theorem l0 : lvl 0 := ⟨by omega, by omega⟩
theorem z3 : lv3 (fun _ => 0) := fun _ _ => l0
theorem blz_R {K : Int → Int} {p it : Int} (hp : 0 ≤ p ∧ p < 6) (hb : WB (bp K p)) (hi : 0 ≤ it ∧ it ≤ 3) : lvl (blz K p it) := runz_R _ _ (blp_pv hp hb hi) z3 1 (by omega)
section BLK
variable {μ : mM} {M : Nat} {A : Nat → Nat → Int32} {S : Nat → Int32} {L : Nat → Int64} {v : Int → Int} {l : List Pz}
theorem rf_row (h : RF μ M A S L v l) : mfI μ (some M) [11] 16 = some (nI l.length) := by
  obtain ⟨A', S', o, m, ⟨J, h1, h2⟩, h3, h4, h5, h6⟩ := h
  rw [mo_f16 h1, h5]
theorem rf_set {e : List Pz} (h : RF μ M A S L v (l ++ e)) : ∃ μ', mpI μ (some M) [11] 16 (nI l.length) = some μ' ∧ RF μ' M A S L v l ∧ Out M μ μ' := by
  obtain ⟨A', S', o, m, ⟨J, h1, h2⟩, h3, h4, h5, h6⟩ := h
  refine ⟨_, mo_p16 h1 _, ⟨A', _, o, m, ⟨J, mo_w16 h1 _, h2⟩, h3, h4, by simp [va_up], fun k q hq => h6 k q ?_⟩, fun b hb => mup_ne _ _ (by omega)⟩
  have hk := (List.getElem?_eq_some_iff.mp hq).1
  rw [List.getElem?_append_left hk]
  exact hq
theorem rf_f18 (h : RF μ M A S L v l) : mfA μ (some M) [11] 18 = some (some (M + 14)) := by
  obtain ⟨A', S', o, m, h1, -⟩ := h
  exact nm_f18 h1
theorem rf_gv (h : RF μ M A S L v l) {i : Int} (h0 : 0 ≤ i) (h1 : i < 3) : mgJ μ (some (M + 14)) (iz i) = some (jz (v i)) := by
  obtain ⟨A', S', o, m, h2, -⟩ := h
  exact nm_gv h2 h0 h1
theorem rf_sv (h : RF μ M A S L v l) {i : Int} (h0 : 0 ≤ i) (h1 : i < 3) (x : Int) : ∃ μ', msJ μ (some (M + 14)) (iz i) (jz x) = some μ' ∧ RF μ' M A S L (zu v i x) l ∧ Out M μ μ' := by
  obtain ⟨A', S', o, m, h2, h3⟩ := h
  obtain ⟨m1, s1, k1, o1⟩ := nm_sv h2 h0 h1 x
  exact ⟨m1, s1, ⟨A', S', o, m, k1, h3⟩, o1⟩
theorem rf_ext (h : RF μ M A S L v l) {v' : Int → Int} (hv : ∀ i : Nat, i < 3 → v i = v' i) : RF μ M A S L v' l := by
  obtain ⟨A', S', o, m, h2, h3⟩ := h
  exact ⟨A', S', o, m, nm_ext h2 hv (fun _ _ => rfl) (fun _ _ => rfl), h3⟩
theorem rf_z (h : RF μ M A S L v l) (kx : mM → Int32 → Option (Int64 × mM)) {fu : Nat} {x3 : Int32} {i : Int} (h0 : 0 ≤ i) (h1 : i < 3) : ∃ μ', f_Mo_blackLevel_31 M kx (fu + 1) μ x3 (iz i) = f_Mo_blackLevel_31 M kx fu μ' x3 (iz (i + 1)) ∧ RF μ' M A S L (zu v i 0) l ∧ Out M μ μ' := by
  obtain ⟨m1, s1, k1, o1⟩ := rf_sv h h0 h1 0
  refine ⟨m1, ?_, k1, o1⟩
  rw [f_Mo_blackLevel_31, zi_3, if_neg (fun q => by have := (iz_le (iR_s (by omega) (by omega)) (iR_s (by omega) (by omega))).mp q; omega), rf_f18 h, Option.bind_some, zj_0, s1, Option.bind_some, zi_1, iz_add]
theorem rf_runL (hk : KA A) {e : List Pz} (hle : (l ++ e).length ≤ 40) (hv : ∀ q ∈ e, pv (kp A) q) (kx : mM → Int32 → Option (Int64 × mM)) {x3 : Int32} : ∀ (j fu t : Nat) (μ : mM) (v : Int → Int), j < fu → t + j = e.length → RF μ M A S L v (l ++ e) → lv3 v → ∃ μ', f_Mo_blackLevel_54 M kx fu μ x3 (nI (l.length + t)) = kx μ' x3 ∧ RF μ' M A S L (runz (kp A) (e.drop t) v) (l ++ e) ∧ Out M μ μ' := by
  intro j
  induction j with
  | zero =>
    intro fu t μ v hf ht h hl
    obtain ⟨fu, rfl⟩ : ∃ m, fu = m + 1 := ⟨fu - 1, by omega⟩
    refine ⟨μ, ?_, ?_, Out.rf⟩
    · rw [f_Mo_blackLevel_54, rf_row h, Option.bind_some, if_pos ((nIz_le (by omega) (by rw [List.length_append] at hle; omega)).mpr (by rw [List.length_append]; omega))]
    · rw [List.drop_eq_nil_of_le (by omega)]
      exact h
  | succ j ih =>
    intro fu t μ v hf ht h hl
    obtain ⟨fu, rfl⟩ : ∃ m, fu = m + 1 := ⟨fu - 1, by omega⟩
    have hte : t < e.length := by omega
    rw [List.length_append] at hle
    have hq : (l ++ e)[l.length + t]? = some e[t] := by
      rw [List.getElem?_append_right (by omega), Nat.add_sub_cancel_left, List.getElem?_eq_getElem hte]
    have hp := hv _ (List.getElem_mem hte)
    obtain ⟨m1, s1, k1, o1⟩ := rf_run h hk hq (by omega) hp hl
    obtain ⟨m2, s2, k2, o2⟩ := ih fu (t + 1) m1 _ (by omega) (by omega) k1 (pfz_R hp hl)
    refine ⟨m2, ?_, ?_, o1.tr o2⟩
    · rw [f_Mo_blackLevel_54, rf_row h, Option.bind_some, if_neg (fun q => by have := (nIz_le (by rw [List.length_append]; omega) (by omega)).mp q; rw [List.length_append] at this; omega), rf_rc h, Option.bind_some, s1, Option.bind_some, nI_s]
      exact s2
    · rw [List.drop_eq_getElem_cons hte]
      exact k2
theorem rf_black (h : RF μ M A S L v l) (hk : KA A) (hl : l.length ≤ 34) {p it : Int} (hp : 0 ≤ p) (hp6 : p < 6) (hb : WB (bp (kp A) p)) (hi : 0 ≤ it ∧ it ≤ 3) : ∃ μ' v', f_Mo_blackLevel M μ (iz p) (iz it) = some (jz (blz (kp A) p it), μ') ∧ RF μ' M A S L v' l ∧ Out M μ μ' := by
  have fl := fth_len (bp (kp A) p) p it
  obtain ⟨m1, s1, k1, o1⟩ := rf_forth h hk (by omega) hp hp6 hb hi
  have rest : ∀ (m2 : mM) (e : List Pz), RF m2 M A S L v (l ++ e) → e = fth (bp (kp A) p) p it ++ blp (bp (kp A) p) p → e.length ≤ 3 → ∃ μ' v', f_Mo_blackLevel_28 M m2 (nI l.length) = some (jz (blz (kp A) p it), μ') ∧ RF μ' M A S L v' l ∧ Out M m2 μ' := by
    intro m2 e k2 he hel
    obtain ⟨a1, t1, K1, O1⟩ := rf_z k2 (fun μ y3 => f_Mo_blackLevel_51 M μ y3) (fu := 4095) (x3 := nI l.length) (i := 0) (by omega) (by omega)
    obtain ⟨a2, t2, K2, O2⟩ := rf_z K1 (fun μ y3 => f_Mo_blackLevel_51 M μ y3) (fu := 4094) (x3 := nI l.length) (i := 1) (by omega) (by omega)
    obtain ⟨a3, t3, K3, O3⟩ := rf_z K2 (fun μ y3 => f_Mo_blackLevel_51 M μ y3) (fu := 4093) (x3 := nI l.length) (i := 2) (by omega) (by omega)
    have K3' : RF a3 M A S L (fun _ => 0) (l ++ e) := rf_ext K3 (lt3 (by simp [zu]) (by simp [zu]) (by simp [zu]))
    obtain ⟨a4, t4, K4, O4⟩ := rf_runL hk (by rw [List.length_append]; omega) (fun q hq => blp_pv ⟨hp, hp6⟩ hb hi q (he ▸ hq)) (fun μ y3 => f_Mo_blackLevel_75 M μ y3) (x3 := nI l.length) e.length 4096 0 a3 _ (by omega) (by omega) K3' z3
    rw [List.drop_zero] at K4
    obtain ⟨a5, t5, K5, O5⟩ := rf_set K4
    refine ⟨a5, _, ?_, K5, (((O1.tr O2).tr O3).tr O4).tr O5⟩
    unfold f_Mo_blackLevel_28
    rw [zi_0]
    refine t1.trans (t2.trans (t3.trans ?_))
    rw [f_Mo_blackLevel_31, zi_3, if_pos (by decide)]
    unfold f_Mo_blackLevel_51
    refine t4.trans ?_
    unfold f_Mo_blackLevel_75
    rw [t5, Option.bind_some, rf_f18 K5, Option.bind_some, zi_1, rf_gv K5 (by omega) (by omega), Option.bind_some, he]
    rfl
  unfold f_Mo_blackLevel
  rw [rf_row h, Option.bind_some, rf_rc h, Option.bind_some, s1, Option.bind_some, rf_rc k1, Option.bind_some, km_lab (rf_KR k1 hk) hp hp6, Option.bind_some]
  by_cases h4 : bp (kp A) p 4 = 1
  · obtain ⟨m2, s2, k2, o2⟩ := rf_put k1 (by rw [List.length_append]; omega) 6 p 0 0
    rw [List.append_assoc] at k2
    obtain ⟨m3, v', s3, k3, o3⟩ := rest m2 _ k2 (by unfold blp; rw [if_pos h4]) (by simp; omega)
    refine ⟨m3, v', ?_, k3, (o1.tr o2).tr o3⟩
    rw [if_pos h4, if_neg (by decide), Option.bind_some, zi_6, zi_0, s2, Option.bind_some]
    exact s3
  · obtain ⟨m3, v', s3, k3, o3⟩ := rest m1 _ k1 (by unfold blp; rw [if_neg h4, List.append_nil]) (by omega)
    refine ⟨m3, v', ?_, k3, o1.tr o3⟩
    rw [if_neg h4, if_pos (by decide)]
    exact s3
def owz (a b : Int → Int) : Bool := decide (¬ (whz a 0 = whz b 0 ∧ whz a 1 = whz b 1 ∧ whz a 2 = whz b 2))
theorem km_other {K : Int → Int} (h : KR μ M K) {p r : Int} (hp : 0 ≤ p) (hp6 : p < 6) (hb : WB (bp K p)) (hr : 0 ≤ r) (hr6 : r < 6) (hbr : WB (bp K r)) : f_Mo_otherWhite μ M (iz p) (iz r) = some (iz (bI (owz (bp K p) (bp K r)))) := by
  have st : ∀ (fu : Nat) (u : Bool) (i : Int), 0 ≤ i → i < 3 → f_Mo_otherWhite_5 μ M (fun y3 => f_Mo_otherWhite_44 μ M y3) (fu + 1) (iz p) (iz r) (iz (bI u)) (iz i) = f_Mo_otherWhite_5 μ M (fun y3 => f_Mo_otherWhite_44 μ M y3) fu (iz p) (iz r) (iz (bI (u || decide (whz (bp K p) i ≠ whz (bp K r) i)))) (iz (i + 1)) := by
    intro fu u i h0 h1
    have w1 := whz_R hb h0 h1
    have w2 := whz_R hbr h0 h1
    rw [f_Mo_otherWhite_5, zi_3, if_neg (fun q => by have := (iz_le (iR_s (by omega) (by omega)) (iR_s (by omega) (by omega))).mp q; omega)]
    unfold f_Mo_otherWhite_32 f_Mo_otherWhite_37
    cases u with
    | true =>
      rw [if_neg (by decide), zi_1, iz_add]
      rfl
    | false =>
      rw [if_pos (by decide), h.1, Option.bind_some, km_white h hp hp6 hb h0 h1, Option.bind_some, Option.bind_some, km_white h hr hr6 hbr h0 h1, Option.bind_some, zi_1, iz_add]
      by_cases e : whz (bp K p) i = whz (bp K r) i
      · rw [if_pos (congrArg iz e), decide_eq_false (fun q => q e)]
        rfl
      · rw [if_neg (fun q => e ((iz_eq (iR_l w1) (iR_l w2)).mp q)), decide_eq_true e]
        rfl
  unfold f_Mo_otherWhite
  rw [show (0 : Int32) = iz (bI false) from by decide]
  refine (st 4095 false 0 (by omega) (by omega)).trans ((st 4094 _ 1 (by omega) (by omega)).trans ((st 4093 _ 2 (by omega) (by omega)).trans ?_))
  rw [f_Mo_otherWhite_5, zi_3, if_pos (by decide)]
  unfold f_Mo_otherWhite_44
  have e : (((false || decide (whz (bp K p) 0 ≠ whz (bp K r) 0)) || decide (whz (bp K p) 1 ≠ whz (bp K r) 1)) || decide (whz (bp K p) 2 ≠ whz (bp K r) 2)) = owz (bp K p) (bp K r) := by
    unfold owz
    by_cases e0 : whz (bp K p) 0 = whz (bp K r) 0 <;> by_cases e1 : whz (bp K p) 1 = whz (bp K r) 1 <;> by_cases e2 : whz (bp K p) 2 = whz (bp K r) 2 <;> simp [e0, e1, e2]
  change (mz (iz (bI (((false || decide (whz (bp K p) 0 ≠ whz (bp K r) 0)) || decide (whz (bp K p) 1 ≠ whz (bp K r) 1)) || decide (whz (bp K p) 2 ≠ whz (bp K r) 2))))).bind _ = _
  rw [e]
  cases owz (bp K p) (bp K r)
  · rfl
  · rfl
theorem km_shaped {K : Int → Int} (h : KR μ M K) {p : Int} (hp : 0 ≤ p) (hp6 : p < 6) (hb : WB (bp K p)) : f_Mo_shaped μ M (iz p) = some (iz (bI (decide (shp (bp K p))))) := by
  have h60 : bp K p 6 ≤ 60 := by have := hb.b6; omega
  have r2 := en_256 h (p := p) (s := 2) h60
  have r3 := en_256 h (p := p) (s := 3) h60
  have r4 := en_256 h (p := p) (s := 4) h60
  have r5 := en_256 h (p := p) (s := 5) h60
  have b4 := bp_R h p 4
  unfold f_Mo_shaped f_Mo_shaped_48 f_Mo_shaped_49
  rw [h.1, Option.bind_some, zi_2, km_entry h hp hp6 (iR_s (by omega) (by omega)) h60, Option.bind_some, Option.bind_some, zi_3, km_entry h hp hp6 (iR_s (by omega) (by omega)) h60, Option.bind_some, Option.bind_some, zi_4, km_entry h hp hp6 (iR_s (by omega) (by omega)) h60, Option.bind_some, Option.bind_some, zi_5, km_entry h hp hp6 (iR_s (by omega) (by omega)) h60, Option.bind_some, Option.bind_some, km_lab h hp hp6, Option.bind_some]
  have c : ∀ s : Int, (en (bp K p) s = -1 ∨ 8 ≤ en (bp K p) s ∧ en (bp K p) s ≤ 244) → (iz (en (bp K p) s) ≤ (0 : Int32) ↔ ¬ 0 ≤ en (bp K p) s) := by
    intro s hs
    rw [zi_0, iz_le (iR_s (by omega) (by omega)) (iR_s (by omega) (by omega))]
    omega
  have no : ¬ shp (bp K p) → ((mz (0 : Int32)).bind fun v6 => some v6) = some (iz (bI (decide (shp (bp K p))))) := by
    intro q
    rw [decide_eq_false q, mz_0]
    rfl
  by_cases e2 : 0 ≤ en (bp K p) 2
  · rw [if_neg (fun q => (c 2 r2).mp q e2)]
    by_cases e3 : 0 ≤ en (bp K p) 3
    · rw [if_neg (fun q => (c 3 r3).mp q e3)]
      by_cases e4 : 0 ≤ en (bp K p) 4
      · rw [if_neg (fun q => (c 4 r4).mp q e4)]
        by_cases e5 : 0 ≤ en (bp K p) 5
        · rw [if_neg (fun q => (c 5 r5).mp q e5)]
          by_cases e6 : bp K p 4 = 1
          · rw [if_pos e6, if_neg (by decide)]
            exact no (fun q => by have := q.2.2.2.2; omega)
          · rw [if_neg e6, if_pos (by decide)]
            rw [decide_eq_true ⟨e2, e3, e4, e5, by have := hb.b4; omega⟩, mz_1]
            rfl
        · rw [if_pos ((c 5 r5).mpr e5)]
          exact no (fun q => e5 q.2.2.2.1)
      · rw [if_pos ((c 4 r4).mpr e4)]
        exact no (fun q => e4 q.2.2.1)
    · rw [if_pos ((c 3 r3).mpr e3)]
      exact no (fun q => e3 q.2.1)
  · rw [if_pos ((c 2 r2).mpr e2)]
    exact no (fun q => e2 q.1)
end BLK
