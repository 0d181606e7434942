/-! The reference's row of pieces. -/
def sA (A' A : Nat → Nat → Int32) : Prop := A' 0 = A 0 ∧ A' 2 = A 2 ∧ A' 4 = A 4 ∧ A' 5 = A 5 ∧ A' 6 = A 6 ∧ A' 7 = A 7 ∧ A' 8 = A 8 ∧ A' 17 = A 17
def sS (S' S : Nat → Int32) : Prop := S' 1 = S 1 ∧ S' 3 = S 3 ∧ S' 10 = S 10 ∧ S' 11 = S 11
def LayR (A : Nat → Nat → Int32) (l : List Pz) : Prop := ∀ (k : Nat) (q : Pz), l[k]? = some q → A 12 k = iz q.1 ∧ A 13 k = iz q.2.1 ∧ A 14 k = iz q.2.2.1 ∧ A 15 k = iz q.2.2.2
def RF (μ : mM) (M : Nat) (A : Nat → Nat → Int32) (S : Nat → Int32) (L : Nat → Int64) (v : Int → Int) (l : List Pz) : Prop := ∃ A' S' o m, NM μ M A' S' L v o m ∧ sA A' A ∧ sS S' S ∧ S' 16 = nI l.length ∧ LayR A' l
section REF
variable {μ : mM} {M : Nat} {A : Nat → Nat → Int32} {S : Nat → Int32} {L : Nat → Int64} {v : Int → Int} {l : List Pz}
theorem sA_kp {A' : Nat → Nat → Int32} (h : sA A' A) : kp A' = kp A := by
  unfold kp
  rw [h.2.1]
theorem sA_KA {A' : Nat → Nat → Int32} (h : sA A' A) (hk : KA A) : KA A' := by
  unfold KA
  rw [h.2.1]
  exact hk
theorem rf_rc (h : RF μ M A S L v l) : mrc μ (some M) 11 = some M := by
  obtain ⟨A', S', o, m, h1, -⟩ := h
  exact nm_rc h1
theorem rf_KR (h : RF μ M A S L v l) (hk : KA A) : KR μ M (kp A) := by
  obtain ⟨A', S', o, m, h1, h2, -⟩ := h
  rw [← sA_kp h2]
  exact nm_KR h1 (sA_KA h2 hk)
theorem rf_put (h : RF μ M A S L v l) (hl : l.length < 40) (kd p x y : Int) : ∃ μ', f_Mo_put M μ (iz kd) (iz p) (iz x) (iz y) = some μ' ∧ RF μ' M A S L v (l ++ [(kd, p, x, y)]) ∧ Out M μ μ' := by
  obtain ⟨A', S', o, m, ⟨J, h1, h2⟩, h3, h4, h5, h6⟩ := h
  have g1 := mo_u12 h1 (upd (A' 12) l.length (iz kd))
  obtain ⟨A1, e1⟩ : ∃ A1, A1 = va_up A' 12 (upd (A' 12) l.length (iz kd)) := ⟨_, rfl⟩
  rw [← e1] at g1
  have g2 := mo_u13 g1 (upd (A1 13) l.length (iz p))
  obtain ⟨A2, e2⟩ : ∃ A2, A2 = va_up A1 13 (upd (A1 13) l.length (iz p)) := ⟨_, rfl⟩
  rw [← e2] at g2
  have g3 := mo_u14 g2 (upd (A2 14) l.length (iz x))
  obtain ⟨A3, e3⟩ : ∃ A3, A3 = va_up A2 14 (upd (A2 14) l.length (iz x)) := ⟨_, rfl⟩
  rw [← e3] at g3
  have g4 := mo_u15 g3 (upd (A3 15) l.length (iz y))
  have g5 := mo_w16 g4 (nI (l.length + 1))
  refine ⟨_, ?_, ⟨_, _, o, m, ⟨J, g5, h2⟩, ?_, h4, ?_, ?_⟩, ?_⟩
  · unfold f_Mo_put
    rw [mo_f12 h1, Option.bind_some, mo_f16 h1, Option.bind_some, h5, mo_s12 h1 hl, Option.bind_some, mo_f13 g1, Option.bind_some, mo_f16 g1, Option.bind_some, h5, mo_s13 g1 hl, Option.bind_some]
    rw [mo_f14 g2, Option.bind_some, mo_f16 g2, Option.bind_some, h5, mo_s14 g2 hl, Option.bind_some]
    rw [mo_f15 g3, Option.bind_some, mo_f16 g3, Option.bind_some, h5, mo_s15 g3 hl, Option.bind_some]
    have e9 : nI l.length + 1 = nI (l.length + 1) := by
      rw [nI_iz, nI_iz, zi_1, iz_add]
      rfl
    rw [mo_f16 g4, Option.bind_some, h5, e9, mo_p16 g4, Option.bind_some]
  · subst e3 e2 e1
    exact h3
  · simp [va_up]
  · subst e3 e2 e1
    intro k q hq
    rw [List.getElem?_append] at hq
    by_cases hk : k < l.length
    · rw [if_pos hk] at hq
      obtain ⟨q1, q2, q3, q4⟩ := h6 k q hq
      have hne : k ≠ l.length := by omega
      simp [va_up, upd, hne, q1, q2, q3, q4]
    · rw [if_neg hk] at hq
      have hk2 : k = l.length := by
        have := List.getElem?_eq_some_iff.mp hq
        obtain ⟨w, -⟩ := this
        simp at w
        omega
      subst hk2
      simp at hq
      subst hq
      simp [va_up, upd]
  · intro b hb
    rw [mup_ne _ _ (by omega), mup_ne _ _ (by omega), mup_ne _ _ (by omega), mup_ne _ _ (by omega), mup_ne _ _ (by omega)]
theorem rf_run (h : RF μ M A S L v l) (hk : KA A) {k : Nat} {q : Pz} (hq : l[k]? = some q) (hk40 : k < 40) (hV : pv (kp A) q) (hl : lv3 v) : ∃ μ', f_Mo_run M μ (nI k) = some μ' ∧ RF μ' M A S L (pf (kp A) q v) l ∧ Out M μ μ' := by
  obtain ⟨A', S', o, m, h1, h3, h4, h5, h6⟩ := h
  obtain ⟨q1, q2, q3, q4⟩ := h6 k q hq
  unfold pv at hV
  unfold pf
  rw [← sA_kp h3] at hV ⊢
  obtain ⟨m1, o', m', s1, k1, o1⟩ := nm_run h1 (sA_KA h3 hk) hk40 hV q1 q2 q3 q4 hl
  exact ⟨m1, s1, ⟨A', S', o', m', k1, h3, h4, h5, h6⟩, o1⟩
/-- straight curves -/
def stb (b : Int → Int) (s : Int) : Bool := decide (b (da b s) = 1 ∧ b (da b s + 1) = 0)
theorem km_plain {K : Int → Int} (h : KR μ M K) {p s : Int} (hp : 0 ≤ p) (hp6 : p < 6) (hs : iR s) (h60 : bp K p 6 ≤ 60) (h0 : 0 ≤ da (bp K p) s) (h1 : da (bp K p) s + 1 < 256) : f_Mo_plain μ M (iz p) (iz s) = some (iz (bI (stb (bp K p) s))) := by
  have r0 := bp_R h p (da (bp K p) s)
  have r1 := bp_R h p (da (bp K p) s + 1)
  unfold f_Mo_plain f_Mo_plain_32 f_Mo_plain_33 stb
  rw [h.1, Option.bind_some, km_data h hp hp6 hs h60, Option.bind_some, Option.bind_some, km_part h hp hp6 h0 (by omega), Option.bind_some, Option.bind_some, zi_1, iz_add, km_part h hp hp6 (by omega) h1, zi_0, Option.bind_some]
  by_cases e1 : bp K p (da (bp K p) s) = 1
  · rw [if_pos (congrArg iz e1)]
    by_cases e2 : bp K p (da (bp K p) s + 1) = 0
    · rw [if_pos (congrArg iz e2), decide_eq_true ⟨e1, e2⟩]
      exact (congrArg (fun o => Option.bind o _) mz_1).trans rfl
    · rw [if_neg (fun q => e2 ((iz_eq (iR_s (by omega) (by omega)) (iR_s (by omega) (by omega))).mp q)), decide_eq_false (fun q => e2 q.2)]
      exact (congrArg (fun o => Option.bind o _) mz_0).trans rfl
  · rw [if_neg (fun q => e1 ((iz_eq (iR_s (by omega) (by omega)) (iR_s (by omega) (by omega))).mp q)), decide_eq_false (fun q => e1 q.1)]
    exact (congrArg (fun o => Option.bind o _) mz_0).trans rfl
def crO (b : Int → Int) : Bool := if b 3 = 1 then stb b 1 else stb b 2 && stb b 3 && stb b 4
def crl' (b : Int → Int) (kd p : Int) : List Pz := if crO b then [] else [(kd, p, 0, 0)]
theorem ec_da {b : Int → Int} {o : Int} (h : EC b o) : 0 ≤ o ∧ o + 1 < 256 := by
  obtain ⟨h0, h1, h2, h3⟩ := h
  have : 0 ≤ cn b o := by
    obtain ⟨g0, g4, gw, gz, gr'⟩ := h2
    by_cases e : 0 < cg b o
    · have := gw e
      omega
    · have := gz (by omega)
      omega
  omega
theorem bI0 (x : Bool) : iz (bI x) = 0 ↔ x = false := by cases x <;> decide
theorem rf_putCurves (h : RF μ M A S L v l) (hk : KA A) (hl : l.length < 40) {kd p : Int} (hp : 0 ≤ p) (hp6 : p < 6) (hb : WB (bp (kp A) p)) (hc : hcv (bp (kp A) p)) : ∃ μ', f_Mo_putCurves M μ (iz kd) (iz p) = some μ' ∧ RF μ' M A S L v (l ++ crl' (bp (kp A) p) kd p) ∧ Out M μ μ' := by
  have kr := rf_KR h hk
  have rc := rf_rc h
  have h60 : bp (kp A) p 6 ≤ 60 := by have := hb.b6; omega
  have h49 : ∀ x : Bool, x = crO (bp (kp A) p) → ∃ μ', f_Mo_putCurves_49 M μ (iz kd) (iz p) (iz (bI x)) = some μ' ∧ RF μ' M A S L v (l ++ crl' (bp (kp A) p) kd p) ∧ Out M μ μ' := by
    intro x hx
    unfold f_Mo_putCurves_49 f_Mo_putCurves_62 crl'
    rw [← hx]
    cases x with
    | false =>
      obtain ⟨m1, s1, k1, o1⟩ := rf_put h hl kd p 0 0
      refine ⟨m1, ?_, k1, o1⟩
      rw [if_pos (by decide), rc, Option.bind_some, zi_0, s1, Option.bind_some]
    | true =>
      refine ⟨μ, ?_, ?_, Out.rf⟩
      · rw [if_neg (by decide)]
      · rw [if_pos rfl, List.append_nil]
        exact h
  unfold f_Mo_putCurves f_Mo_putCurves_48
  rw [rc, Option.bind_some, km_single kr hp hp6, Option.bind_some]
  by_cases e3 : bp (kp A) p 3 = 1
  · have E := ec_da (hc 0 (by omega) (by unfold nch; rw [if_pos e3]; omega))
    unfold ocz at E
    rw [if_pos e3] at E
    rw [if_pos e3, if_neg (by decide), Option.bind_some, zi_1, km_plain kr hp hp6 (iR_s (by omega) (by omega)) h60 E.1 E.2, Option.bind_some]
    exact h49 _ (by unfold crO; rw [if_pos e3])
  · have n3 : nch (bp (kp A) p) = 3 := if_neg e3
    have E2 : 0 ≤ da (bp (kp A) p) 2 ∧ da (bp (kp A) p) 2 + 1 < 256 := by
      have := ec_da (hc 0 (by omega) (by omega))
      unfold ocz at this
      rw [if_neg e3] at this
      exact this
    have E3 : 0 ≤ da (bp (kp A) p) 3 ∧ da (bp (kp A) p) 3 + 1 < 256 := by
      have := ec_da (hc 1 (by omega) (by omega))
      unfold ocz at this
      rw [if_neg e3] at this
      exact this
    have E4 : 0 ≤ da (bp (kp A) p) 4 ∧ da (bp (kp A) p) 4 + 1 < 256 := by
      have := ec_da (hc 2 (by omega) (by omega))
      unfold ocz at this
      rw [if_neg e3] at this
      exact this
    have eO : crO (bp (kp A) p) = (stb (bp (kp A) p) 2 && stb (bp (kp A) p) 3 && stb (bp (kp A) p) 4) := if_neg e3
    rw [if_neg e3, if_pos (by decide), Option.bind_some, zi_2, km_plain kr hp hp6 (iR_s (by omega) (by omega)) h60 E2.1 E2.2, Option.bind_some, Option.bind_some, zi_3, km_plain kr hp hp6 (iR_s (by omega) (by omega)) h60 E3.1 E3.2, Option.bind_some, Option.bind_some, zi_4, km_plain kr hp hp6 (iR_s (by omega) (by omega)) h60 E4.1 E4.2, Option.bind_some]
    cases h2 : stb (bp (kp A) p) 2 with
    | false =>
      rw [if_pos (by decide)]
      exact h49 false (by rw [eO, h2]; rfl)
    | true =>
      rw [if_neg (by decide)]
      cases h3 : stb (bp (kp A) p) 3 with
      | false =>
        rw [if_pos (by decide)]
        exact h49 false (by rw [eO, h2, h3]; rfl)
      | true =>
        rw [if_neg (by decide)]
        cases h4 : stb (bp (kp A) p) 4 with
        | false =>
          rw [if_pos (by decide)]
          exact h49 false (by rw [eO, h2, h3, h4]; rfl)
        | true =>
          rw [if_neg (by decide)]
          exact h49 true (by rw [eO, h2, h3, h4]; rfl)
end REF
