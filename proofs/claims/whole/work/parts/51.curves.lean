/-! What never changes (φ); CURVES and CURVES BACK, both sides. -/
def Fr (φ μ : mM) : Prop := ∀ a e, φ a = some e → μ a = some e
theorem Fr.put {φ μ μ' : mM} {ca : Nat} (h : Fr φ μ) (hc : φ ca = none) (o : ∀ b, b ≠ ca → μ' b = μ b) : Fr φ μ' := by
  intro a e ha
  have hne : a ≠ ca := fun q => by rw [q, hc] at ha; cases ha
  rw [o a hne]
  exact h a e ha
theorem CV.mono {φ μ : mM} {c : Nat} {g wn : Int} {wd : Int → Int} (h : CV φ c g wn wd) (hf : Fr φ μ) : CV μ c g wn wd := by
  obtain ⟨ad, f, h1, h2, h3⟩ := h
  exact ⟨ad, f, hf _ _ h1, hf _ _ h2, h3⟩
/-- a piece of curves: kind kd, n curves, the i-th has the data of b's element at oc i -/
def CS (φ : mM) (a : Nat) (kd n : Int) (b : Int → Int) (oc : Int → Int) : Prop := ∃ (lo : Int32) (ra : Nat) (f : Nat → Option Nat), φ a = some (.inr (3, [.int (iz kd), .int lo, .ref ra])) ∧ φ ra = some (.inl (6, n.toNat, .inr (.inr (.inr (.inr f))))) ∧ (n = 1 ∨ n = 3) ∧ ∀ i : Nat, (i : Int) < n → ∃ ci, f i = some ci ∧ CV φ ci (cg b (oc i)) (cn b (oc i)) (cw b (oc i)) ∧ EC b (oc i)
def crvz (bk : Bool) (b : Int → Int) (n : Int) (oc : Int → Int) (c : Int → Int) : Int → Int := fun i => if i < n then (if bk then cib b (oc i) (c i) else cvb b (oc i) (c i)) else c i
theorem crv_R {bk : Bool} {b : Int → Int} {n : Int} {oc c : Int → Int} (hE : ∀ i : Int, 0 ≤ i → i < n → EC b (oc i)) (hl : ∀ i : Nat, i < 3 → lvl (c i)) : ∀ i : Nat, i < 3 → lvl (crvz bk b n oc c i) := by
  intro i hi
  have h := hl i hi
  unfold crvz
  split
  · rename_i hn
    split
    · exact cinv_R _ _ _ _
    · exact cvb_R (hE i (by omega) hn) h.1 h.2
  · exact h
theorem cs_runL {φ : mM} {a ca : Nat} {kd n : Int} {b oc : Int → Int} (hs : CS φ a kd n b oc) (hkd : kd = 1 ∨ kd = 11) (hca : φ ca = none) (kx : mM → Option mM) : ∀ (j fu : Nat) (i : Int) (μ : mM) (c : Int → Int), j < fu → 0 ≤ i → i + j = n → Fr φ μ → CF μ ca c → (∀ k : Int, i ≤ k → k < 3 → lvl (c k)) → ∃ μ' c', f_Curves_run_2 a kx fu μ (some ca) (iz i) = kx μ' ∧ CF μ' ca c' ∧ (∀ b, b ≠ ca → μ' b = μ b) ∧ (∀ k, i ≤ k → k < n → c' k = if kd = 11 then cib b (oc k) (c k) else cvb b (oc k) (c k)) ∧ (∀ k, k < i ∨ n ≤ k → c' k = c k) := by
  obtain ⟨lo, ra, f, h1, h2, hn, h3⟩ := hs
  intro j
  induction j with
  | zero =>
    intro fu i μ c hf hi hij hF hC hl
    obtain ⟨fu, rfl⟩ : ∃ m, fu = m + 1 := ⟨fu - 1, by omega⟩
    have e1 : mfA μ (some a) [3] 2 = some (some ra) := mfA_i (v := some ra) (hF _ _ h1) rfl rfl
    have e2 : ml μ (some ra) = some (iz n) := by
      rw [ml_i (hF _ _ h2) (by decide), nI_iz]
      show some (iz (n.toNat : Int)) = _
      rw [Int.toNat_of_nonneg (by omega)]
    refine ⟨μ, c, ?_, hC, fun _ _ => rfl, fun k hk1 hk2 => by omega, fun _ _ => rfl⟩
    rw [f_Curves_run_2, e1, Option.bind_some, e2, Option.bind_some, if_pos ((iz_le (iR_s (by omega) (by omega)) (iR_s (by omega) (by omega))).mpr (by omega))]
  | succ j ih =>
    intro fu i μ c hf hi hij hF hC hl
    obtain ⟨fu, rfl⟩ : ∃ m, fu = m + 1 := ⟨fu - 1, by omega⟩
    have e0 : mfI μ (some a) [3] 0 = some (iz kd) := mfI_i (hF _ _ h1) rfl rfl
    have e1 : mfA μ (some a) [3] 2 = some (some ra) := mfA_i (v := some ra) (hF _ _ h1) rfl rfl
    have e2 : ml μ (some ra) = some (iz n) := by
      rw [ml_i (hF _ _ h2) (by decide), nI_iz]
      show some (iz (n.toNat : Int)) = _
      rw [Int.toNat_of_nonneg (by omega)]
    obtain ⟨ci, hci, hcv, hec⟩ := h3 i.toNat (by omega)
    have hii : (i.toNat : Int) = i := Int.toNat_of_nonneg hi
    rw [hii] at hcv hec
    have hcv' := hcv.mono hF
    have e3 : mgA μ (some ra) (iz i) = some (some ci) := by
      rw [iz_nat hi, mgA_i (k := 3) (hF _ _ h2) (by decide) (by omega) (by omega), hci]
    have e4 : mrc μ (some ci) 2 = some ci := by
      obtain ⟨ad, g1, -⟩ := cv_e hcv'
      exact g1
    have hli := hl i (by omega) (by omega)
    have e5 := cf_g hC hi (by omega : i < 3)
    obtain ⟨m1, s1, k1, o1⟩ := cf_s hC hi (by omega : i < 3) (if kd = 11 then cib b (oc i) (c i) else cvb b (oc i) (c i))
    obtain ⟨μ', c', r1, r2, r3, r4, r5⟩ := ih fu (i + 1) m1 _ (by omega) (by omega) (by omega) (hF.put hca o1) k1 (fun k hk1 hk2 => by
      unfold zu
      rw [if_neg (by omega)]
      exact hl k (by omega) hk2)
    refine ⟨μ', c', ?_, r2, fun b hb => (r3 b hb).trans (o1 b hb), fun k hk1 hk2 => ?_, fun k hk => ?_⟩
    · rw [f_Curves_run_2]
      unfold f_Curves_run_48
      rw [e1, Option.bind_some, e2, Option.bind_some, if_neg (fun q => by have := (iz_le (iR_s (by omega) (by omega)) (iR_s (by omega) (by omega))).mp q; omega), e0, Option.bind_some, zi_1, iz_add]
      rcases hkd with rfl | rfl
      · rw [if_neg (by omega)] at s1
        rw [if_pos rfl, Option.bind_some, e3, Option.bind_some, e5, Option.bind_some, e4, Option.bind_some, cv_val hcv' hec.2.2.1 hli.1 hli.2, Option.bind_some]
        change (msI μ (some ca) (iz i) (iz (cvb b (oc i) (c i)))).bind _ = _
        rw [s1, Option.bind_some, r1]
      · rw [if_pos rfl] at s1
        rw [if_neg (by decide), Option.bind_some, e3, Option.bind_some, e5, Option.bind_some, e4, Option.bind_some, cv_inv hcv' hec.2.2.1 (iR_l hli), Option.bind_some]
        change (msI μ (some ca) (iz i) (iz (cib b (oc i) (c i)))).bind _ = _
        rw [s1, Option.bind_some, r1]
    · by_cases hk : k = i
      · subst hk
        rw [r5 k (by omega)]
        unfold zu
        rw [if_pos rfl]
      · rw [r4 k (by omega) hk2]
        unfold zu
        rw [if_neg hk]
    · rw [r5 k (by omega)]
      unfold zu
      rw [if_neg (by omega)]
theorem cs_run {φ μ : mM} {a ca : Nat} {kd n : Int} {b oc c : Int → Int} (hs : CS φ a kd n b oc) (hkd : kd = 1 ∨ kd = 11) (hca : φ ca = none) (hF : Fr φ μ) (hC : CF μ ca c) (hl : ∀ i : Nat, i < 3 → lvl (c i)) : ∃ μ', f_Curves_run a μ (some ca) = some μ' ∧ CF μ' ca (crvz (decide (kd = 11)) b n oc c) ∧ ∀ b, b ≠ ca → μ' b = μ b := by
  have hn : n = 1 ∨ n = 3 := by
    obtain ⟨_, _, _, _, _, h, _⟩ := hs
    exact h
  obtain ⟨μ', c', r1, r2, r3, r4, r5⟩ := cs_runL hs hkd hca (fun μ => f_Curves_run_55 a μ) n.toNat 4096 0 μ c (by omega) (by omega) (by omega) hF hC (fun k h1 h2 => by
    have := hl k.toNat (by omega)
    rw [Int.toNat_of_nonneg h1] at this
    exact this)
  refine ⟨μ', ?_, cf_ext r2 (fun i hi => ?_), r3⟩
  · unfold f_Curves_run
    rw [zi_0, r1]
    rfl
  · unfold crvz
    by_cases hin : (i : Int) < n
    · rw [r4 i (by omega) hin, if_pos hin]
      rcases hkd with rfl | rfl <;> simp
    · rw [r5 i (by omega), if_neg hin]
section CM
variable {μ : mM} {M : Nat} {A : Nat → Nat → Int32} {S : Nat → Int32} {L : Nat → Int64} {v o m : Int → Int}
/-- which element the i-th channel's curve is -/
def ocz (b : Int → Int) (i : Int) : Int := da b (if b 3 = 1 then 1 else 2 + i)
def nch (b : Int → Int) : Int := if b 3 = 1 then 1 else 3
theorem nm_crvL (hk : KA A) {p : Int} (hp : 0 ≤ p) (hp6 : p < 6) (h60 : bp (kp A) p 6 ≤ 60) (bk : Bool) (hE : ∀ i : Int, 0 ≤ i → i < nch (bp (kp A) p) → EC (bp (kp A) p) (ocz (bp (kp A) p) i)) (hl : ∀ i : Nat, i < 3 → lvl (o i)) (kx : mM → Option mM) : ∀ (j fu : Nat) (i : Int) (μ : mM) (v : Int → Int), j < fu → 0 ≤ i → i + j = nch (bp (kp A) p) → NM μ M A S L v o m → ∃ μ' v', f_Mo_curves_17 M kx fu μ (iz p) (iz (bI bk)) (iz (nch (bp (kp A) p))) (iz i) = kx μ' ∧ NM μ' M A S L v' o m ∧ Out M μ μ' ∧ (∀ k, i ≤ k → k < nch (bp (kp A) p) → v' k = if bk then cib (bp (kp A) p) (ocz (bp (kp A) p) k) (o k) else cvb (bp (kp A) p) (ocz (bp (kp A) p) k) (o k)) ∧ (∀ k, k < i ∨ nch (bp (kp A) p) ≤ k → v' k = v k) := by
  have hn : nch (bp (kp A) p) = 1 ∨ nch (bp (kp A) p) = 3 := by
    unfold nch
    split
    · exact Or.inl rfl
    · exact Or.inr rfl
  intro j
  induction j with
  | zero =>
    intro fu i μ v hf hi hij hN
    obtain ⟨fu, rfl⟩ : ∃ m, fu = m + 1 := ⟨fu - 1, by omega⟩
    refine ⟨μ, v, ?_, hN, Out.rf, fun k h1 h2 => by omega, fun _ _ => rfl⟩
    rw [f_Mo_curves_17, if_pos ((iz_le (iR_s (by omega) (by omega)) (iR_s (by omega) (by omega))).mpr (by omega))]
  | succ j ih =>
    intro fu i μ v hf hi hij hN
    obtain ⟨fu, rfl⟩ : ∃ m, fu = m + 1 := ⟨fu - 1, by omega⟩
    have hK := nm_KR hN hk
    have hEi := hE i hi (by omega)
    have hli : lvl (o i) := by
      have := hl i.toNat (by omega)
      rw [Int.toNat_of_nonneg hi] at this
      exact this
    obtain ⟨m1, s1, k1, o1⟩ := nm_sv hN hi (by omega : i < 3) (if bk then cib (bp (kp A) p) (ocz (bp (kp A) p) i) (o i) else cvb (bp (kp A) p) (ocz (bp (kp A) p) i) (o i))
    obtain ⟨μ', v', r1, r2, r3, r4, r5⟩ := ih fu (i + 1) m1 _ (by omega) (by omega) (by omega) k1
    have key : ∀ s : Int, iR s → ocz (bp (kp A) p) i = da (bp (kp A) p) s → f_Mo_curves_36 M (f_Mo_curves_17 M kx fu) kx μ (iz p) (iz (bI bk)) (iz (nch (bp (kp A) p))) (iz i) (iz s) = kx μ' := by
      intro s hs es
      unfold f_Mo_curves_36 f_Mo_curves_79
      rw [nm_f18 hN, Option.bind_some, zi_0, zi_1, iz_add]
      have g1 := nm_go hN hi (by omega : i < 3)
      rw [es] at s1 hEi
      cases bk with
      | false =>
        rw [if_neg (by decide)] at s1
        rw [if_pos (by decide), nm_f19 hN, Option.bind_some, g1, Option.bind_some, nm_rc hN, Option.bind_some, km_val hK hp hp6 hs h60 hEi hli.1 hli.2, Option.bind_some, s1, Option.bind_some]
        exact r1
      | true =>
        rw [if_pos rfl] at s1
        rw [if_neg (by decide), nm_f19 hN, Option.bind_some, g1, Option.bind_some, nm_rc hN, Option.bind_some, km_inv hK hp hp6 hs h60 hEi (jR_s (by have := hli.1; omega) (by have := hli.2; omega)), Option.bind_some, s1, Option.bind_some]
        exact r1
    refine ⟨μ', v', ?_, r2, o1.tr r3, fun k hk1 hk2 => ?_, fun k hk => ?_⟩
    · rw [f_Mo_curves_17, if_neg (fun q => by have := (iz_le (iR_s (by omega) (by omega)) (iR_s (by omega) (by omega))).mp q; omega), zi_1, zi_2, iz_add]
      by_cases h3 : bp (kp A) p 3 = 1
      · have e1 : nch (bp (kp A) p) = 1 := by unfold nch; rw [if_pos h3]
        rw [if_pos (congrArg iz e1)]
        exact key 1 (iR_s (by omega) (by omega)) (by unfold ocz; rw [if_pos h3])
      · have e1 : nch (bp (kp A) p) = 3 := by unfold nch; rw [if_neg h3]
        rw [if_neg (fun q => by have := (iz_eq (iR_s (by omega) (by omega)) (iR_s (by omega) (by omega))).mp q; omega)]
        exact key (2 + i) (iR_s (by omega) (by omega)) (by unfold ocz; rw [if_neg h3])
    · by_cases hki : k = i
      · subst hki
        rw [r5 k (by omega)]
        unfold zu
        rw [if_pos rfl]
      · exact r4 k (by omega) hk2
    · rw [r5 k (by omega)]
      unfold zu
      rw [if_neg (by omega)]
theorem nm_crv (h : NM μ M A S L v o m) (hv : ∀ i : Nat, i < 3 → v i = o i) (hk : KA A) {p : Int} (hp : 0 ≤ p) (hp6 : p < 6) (h60 : bp (kp A) p 6 ≤ 60) (bk : Bool) (hE : ∀ i : Int, 0 ≤ i → i < nch (bp (kp A) p) → EC (bp (kp A) p) (ocz (bp (kp A) p) i)) (hl : ∀ i : Nat, i < 3 → lvl (o i)) : ∃ μ', f_Mo_curves M μ (iz p) (iz (bI bk)) = some μ' ∧ NM μ' M A S L (crvz bk (bp (kp A) p) (nch (bp (kp A) p)) (ocz (bp (kp A) p)) o) o m ∧ Out M μ μ' := by
  have hn : nch (bp (kp A) p) = 1 ∨ nch (bp (kp A) p) = 3 := by
    unfold nch
    split
    · exact Or.inl rfl
    · exact Or.inr rfl
  obtain ⟨μ', v', r1, r2, r3, r4, r5⟩ := nm_crvL hk hp hp6 h60 bk hE hl (fun μ => f_Mo_curves_86 M μ) (nch (bp (kp A) p)).toNat 4096 0 μ v (by omega) (by omega) (by omega) h
  refine ⟨μ', ?_, nm_ext r2 (fun i hi => ?_) (fun _ _ => rfl) (fun _ _ => rfl), r3⟩
  · unfold f_Mo_curves f_Mo_curves_13
    rw [nm_rc h, Option.bind_some, km_single (nm_KR h hk) hp hp6, Option.bind_some, zi_0, zi_1, zi_3]
    by_cases h3 : bp (kp A) p 3 = 1
    · have e1 : nch (bp (kp A) p) = 1 := by unfold nch; rw [if_pos h3]
      rw [if_pos h3, if_neg (by decide)]
      rw [e1] at r1
      exact r1
    · have e1 : nch (bp (kp A) p) = 3 := by unfold nch; rw [if_neg h3]
      rw [if_neg h3, if_pos rfl]
      rw [e1] at r1
      exact r1
  · unfold crvz
    by_cases hin : (i : Int) < nch (bp (kp A) p)
    · rw [r4 i (by omega) hin, if_pos hin]
    · rw [r5 i (by omega), if_neg hin]
      exact hv i hi
end CM
