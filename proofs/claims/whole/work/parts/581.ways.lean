/-! The reference's ways forth and back, its black level. -/
def muL (m : Int → Int) : Nat → Int → Bool
  | 0, _ => true
  | n + 1, i => decide (m i = if i % 4 = 0 then 4096 else 0) && muL m n (i + 1)
def mun (b : Int → Int) : Bool := muL (mxz b (da b 5)) 9 0
def mtl (b : Int → Int) (kd p : Int) : List Pz := if mun b then [] else [(kd, p, 0, 0)]
def grz (b : Int → Int) (f it : Int) : Int := if 0 < en b (f + if it = 3 then 1 else it) then f + (if it = 3 then 1 else it) else if 0 < en b f then f else 0
def fth (b : Int → Int) (p it : Int) : List Pz := if b 3 = 1 then crl' b 1 p ++ [(4, p, 0, 0)] else if 0 < grz b 6 it then [(3, p, grz b 6 it, 0)] else crl' b 1 p ++ mtl b 2 p
def bck (b : Int → Int) (p it : Int) : List Pz := if b 3 = 1 then [(9, p, 0, 0)] ++ crl' b 11 p else if 0 < grz b 9 it then [(3, p, grz b 9 it, 0)] else mtl b 10 p ++ crl' b 11 p
theorem i4 {i : Int} (h0 : 0 ≤ i) (h1 : i < 1000) : (iz i - iz i / (4 : Int32) * (4 : Int32)) = (0 : Int32) ↔ i % 4 = 0 := by
  rw [zi_4, iz_div (iR_s (by omega) (by omega)) (iR_s (by omega) (by omega)) (by omega), iz_mul, iz_sub, zi_0, iz_eq (iR_s (by rw [Int.tdiv_eq_ediv_of_nonneg h0]; omega) (by rw [Int.tdiv_eq_ediv_of_nonneg h0]; omega)) (iR_s (by omega) (by omega)), Int.tdiv_eq_ediv_of_nonneg h0]
  omega
theorem en_pos {b : Int → Int} (h6 : 0 ≤ b 6) (s : Int) : 0 < en b s ↔ 0 ≤ en b s := by
  rcases en_R (b := b) (s := s) h6 with h | ⟨j, h1, h2, h3, h4⟩ <;> omega
section WAY
variable {μ : mM} {M : Nat} {A : Nat → Nat → Int32} {S : Nat → Int32} {L : Nat → Int64} {v : Int → Int} {l : List Pz}
theorem nm_munL {o m : Int → Int} (h : NM μ M A S L v o m) (hm : ∀ i, -32768 ≤ m i ∧ m i ≤ 32768) (kx : mM → Int32 → Int32 → Int32 → Option mM) {x1 x2 : Int32} : ∀ (n fu : Nat) (i : Int) (u : Bool), n < fu → 0 ≤ i → i + n = 9 → f_Mo_putMatrix_10 M kx fu μ x1 x2 (iz (bI u)) (iz i) = kx μ x1 x2 (iz (bI (u && muL m n i))) := by
  intro n
  induction n with
  | zero =>
    intro fu i u hf h0 hi
    obtain ⟨fu, rfl⟩ : ∃ m, fu = m + 1 := ⟨fu - 1, by omega⟩
    rw [f_Mo_putMatrix_10, zi_9, if_pos ((iz_le (iR_s (by omega) (by omega)) (iR_s (by omega) (by omega))).mpr (by omega))]
    simp [muL]
  | succ n ih =>
    intro fu i u hf h0 hi
    obtain ⟨fu, rfl⟩ : ∃ m, fu = m + 1 := ⟨fu - 1, by omega⟩
    rw [f_Mo_putMatrix_10, zi_9, if_neg (fun q => by have := (iz_le (iR_s (by omega) (by omega)) (iR_s (by omega) (by omega))).mp q; omega)]
    have e1 : iz i + 1 = iz (i + 1) := by rw [zi_1, iz_add]
    unfold f_Mo_putMatrix_50 f_Mo_putMatrix_42 f_Mo_putMatrix_50 f_Mo_putMatrix_51 muL
    have hmi := hm i
    cases u with
    | false =>
      rw [if_pos (by decide), e1]
      exact (ih fu (i + 1) false (by omega) (by omega) (by omega)).trans (by simp)
    | true =>
      rw [if_neg (by decide), nm_f20 h, Option.bind_some, nm_gm h h0 (by omega), Option.bind_some, e1]
      have k1 : ∀ t : Int, -32768 ≤ t ∧ t ≤ 32768 → (if jz (m i) = jz t then f_Mo_putMatrix_10 M kx fu μ x1 x2 1 (iz (i + 1)) else f_Mo_putMatrix_10 M kx fu μ x1 x2 0 (iz (i + 1))) = kx μ x1 x2 (iz (bI (true && (decide (m i = t) && muL m n (i + 1))))) := by
        intro t ht
        by_cases e : m i = t
        · rw [if_pos (congrArg jz e), decide_eq_true e]
          exact (ih fu (i + 1) true (by omega) (by omega) (by omega)).trans (by simp)
        · rw [if_neg (fun q => e ((jz_eq (jR_s (by omega) (by omega)) (jR_s (by omega) (by omega))).mp q)), decide_eq_false e]
          exact (ih fu (i + 1) false (by omega) (by omega) (by omega)).trans (by simp)
      by_cases h4 : i % 4 = 0
      · rw [if_pos ((i4 h0 (by omega)).mpr h4), if_pos h4]
        exact k1 4096 (by omega)
      · rw [if_neg (fun q => h4 ((i4 h0 (by omega)).mp q)), if_neg h4]
        exact k1 0 (by omega)
theorem rf_putMatrix (h : RF μ M A S L v l) (hk : KA A) (hl : l.length < 40) {kd p : Int} (hp : 0 ≤ p) (hp6 : p < 6) (hb : WB (bp (kp A) p)) (h5 : 0 ≤ en (bp (kp A) p) 5) : ∃ μ', f_Mo_putMatrix M μ (iz kd) (iz p) = some μ' ∧ RF μ' M A S L v (l ++ mtl (bp (kp A) p) kd p) ∧ Out M μ μ' := by
  have h60 : bp (kp A) p 6 ≤ 60 := by have := hb.b6; omega
  have rc := rf_rc h
  have kr := rf_KR h hk
  obtain ⟨A', S', o, m, h1, h3, h4, h5', h6⟩ := h
  have ek := sA_kp h3
  obtain ⟨m1, s1, k1, o1⟩ := nm_take h1 (sA_KA h3 hk) hp hp6 (by rw [ek]; exact h60) (by rw [ek]; exact hb.mat h5)
  rw [ek] at k1
  have R1 : RF m1 M A S L v l := ⟨A', S', _, _, k1, h3, h4, h5', h6⟩
  have L1 := nm_munL k1 (fun i => mxz_R kr p _ i) (fun μ y1 y2 y3 => f_Mo_putMatrix_58 M μ y1 y2 y3) (x1 := iz kd) (x2 := iz p) 9 4096 0 true (by omega) (by omega) (by omega)
  have e : f_Mo_putMatrix M μ (iz kd) (iz p) = f_Mo_putMatrix_58 M m1 (iz kd) (iz p) (iz (bI (mun (bp (kp A) p)))) := by
    unfold f_Mo_putMatrix
    rw [rc, Option.bind_some, s1, Option.bind_some, zi_0]
    exact L1
  rw [e]
  unfold f_Mo_putMatrix_58 f_Mo_putMatrix_70 mtl
  cases hm : mun (bp (kp A) p) with
  | false =>
    obtain ⟨m2, s2, k2, o2⟩ := rf_put R1 hl kd p 0 0
    refine ⟨m2, ?_, k2, o1.tr o2⟩
    rw [if_pos (by decide), rf_rc R1, Option.bind_some, zi_0, s2, Option.bind_some]
  | true =>
    refine ⟨m1, ?_, ?_, o1⟩
    · rw [if_neg (by decide)]
    · rw [if_pos rfl, List.append_nil]
      exact R1
theorem km_grid {K : Int → Int} (h : KR μ M K) {p f it : Int} (hp : 0 ≤ p) (hp6 : p < 6) (h60 : bp K p 6 ≤ 60) (hf : 0 ≤ f ∧ f ≤ 9) (hi : 0 ≤ it ∧ it ≤ 3) : f_Mo_grid μ M (iz p) (iz f) (iz it) = some (iz (grz (bp K p) f it)) := by
  have h11 : ∀ j : Int, 0 ≤ j → j ≤ 3 → f_Mo_grid_11 μ M (iz p) (iz f) (iz f) (iz j) = some (iz (if 0 < en (bp K p) (f + j) then f + j else if 0 < en (bp K p) f then f else 0)) := by
    intro j j0 j1
    unfold f_Mo_grid_11 f_Mo_grid_43
    have r1 := en_256 h (p := p) (s := f + j) h60
    have r2 := en_256 h (p := p) (s := f) h60
    rw [h.1, Option.bind_some, iz_add, km_entry h hp hp6 (iR_s (by omega) (by omega)) h60, Option.bind_some, Option.bind_some, km_entry h hp hp6 (iR_s (by omega) (by omega)) h60, Option.bind_some, zi_0]
    by_cases e1 : 0 < en (bp K p) (f + j)
    · rw [if_neg (fun q => by have := (iz_le (iR_s (by omega) (by omega)) (iR_s (by omega) (by omega))).mp q; omega), if_pos e1]
    · rw [if_pos ((iz_le (iR_s (by omega) (by omega)) (iR_s (by omega) (by omega))).mpr (by omega)), if_neg e1]
      by_cases e2 : 0 < en (bp K p) f
      · rw [if_neg (fun q => by have := (iz_le (iR_s (by omega) (by omega)) (iR_s (by omega) (by omega))).mp q; omega), if_pos e2]
      · rw [if_pos ((iz_le (iR_s (by omega) (by omega)) (iR_s (by omega) (by omega))).mpr (by omega)), if_neg e2]
  unfold f_Mo_grid grz
  by_cases e : it = 3
  · rw [zi_3, if_pos (congrArg iz e), if_pos e, zi_1]
    exact h11 1 (by omega) (by omega)
  · rw [zi_3, if_neg (fun q => e ((iz_eq (iR_s (by omega) (by omega)) (iR_s (by omega) (by omega))).mp q)), if_neg e]
    exact h11 it hi.1 hi.2
theorem grz_R {b : Int → Int} {f it : Int} (hf : f = 6 ∨ f = 9) (hi : 0 ≤ it ∧ it ≤ 3) : grz b f it = 0 ∨ (6 ≤ grz b f it ∧ grz b f it ≤ 12 ∧ 0 < en b (grz b f it)) := by
  unfold grz
  by_cases e : it = 3
  · rw [if_pos e]
    split
    · right
      rename_i h
      exact ⟨by omega, by omega, h⟩
    · split
      · right
        rename_i h
        exact ⟨by omega, by omega, h⟩
      · exact Or.inl rfl
  · rw [if_neg e]
    split
    · right
      rename_i h
      exact ⟨by omega, by omega, h⟩
    · split
      · right
        rename_i h
        exact ⟨by omega, by omega, h⟩
      · exact Or.inl rfl
theorem grz_11 {b : Int → Int} {f it : Int} (hf : f = 6 ∨ f = 9) (hi : 0 ≤ it ∧ it ≤ 3) : grz b f it ≤ 11 := by
  unfold grz
  by_cases e : it = 3
  · rw [if_pos e]
    split
    · omega
    · split <;> omega
  · rw [if_neg e]
    split
    · omega
    · split <;> omega
theorem grz_0 {b : Int → Int} {f it : Int} (hf : f = 6 ∨ f = 9) (hi : 0 ≤ it ∧ it ≤ 3) (h : ¬ 0 < grz b f it) : ¬ 0 < en b f := by
  intro q
  apply h
  unfold grz
  by_cases e : 0 < en b (f + if it = 3 then 1 else it)
  · rw [if_pos e]
    split <;> omega
  · rw [if_neg e, if_pos q]
    omega
theorem shp_hcv {b : Int → Int} (h : WB b) (hs : shp b) (h3 : b 3 ≠ 1) : hcv b := by
  intro i h0 h1
  unfold nch at h1
  rw [if_neg h3] at h1
  unfold ocz
  rw [if_neg h3]
  obtain ⟨s2, s3, s4', s5, s6⟩ := hs
  have hi : i = 0 ∨ i = 1 ∨ i = 2 := by omega
  rcases hi with rfl | rfl | rfl
  · exact h.cur 2 (by omega) (by omega) s2
  · exact h.cur 3 (by omega) (by omega) s3
  · exact h.cur 4 (by omega) (by omega) s4'
theorem sng_hcv {b : Int → Int} (h : WB b) (h3 : b 3 = 1) : hcv b := by
  intro i h0 h1
  unfold ocz
  rw [if_pos h3]
  exact h.cur 1 (by omega) (by omega) (h.way1 h3)
theorem fth_shp {b : Int → Int} (h : WB b) {it : Int} (hi : 0 ≤ it ∧ it ≤ 3) (h3 : b 3 ≠ 1) (hg : ¬ 0 < grz b 6 it) : shp b := by
  have h6 := grz_0 (Or.inl rfl) hi hg
  rw [en_pos (by have := h.b6; omega)] at h6
  rcases h.way3 (by have := h.b3; omega) with q | q
  · exact absurd q h6
  · exact q
theorem crl_pv {K : Int → Int} {p : Int} (hp : 0 ≤ p ∧ p < 6) (hb : WB (bp K p)) (hc : hcv (bp K p)) {kd : Int} (hkd : kd = 1 ∨ kd = 11) : ∀ q ∈ crl' (bp K p) kd p, pv K q := by
  intro q hq
  unfold crl' at hq
  split at hq
  · cases hq
  · rw [List.mem_singleton] at hq
    subst hq
    rcases hkd with rfl | rfl
    · exact ⟨hp.1, hp.2, hb, Or.inl ⟨rfl, hc⟩⟩
    · exact ⟨hp.1, hp.2, hb, by simp [hc]⟩
theorem fth_pv {K : Int → Int} {p it : Int} (hp : 0 ≤ p ∧ p < 6) (hb : WB (bp K p)) (hi : 0 ≤ it ∧ it ≤ 3) : ∀ q ∈ fth (bp K p) p it, pv K q := by
  intro q hq
  unfold fth at hq
  by_cases h3 : bp K p 3 = 1
  · rw [if_pos h3, List.mem_append] at hq
    rcases hq with hq | hq
    · exact crl_pv hp hb (sng_hcv hb h3) (Or.inl rfl) q hq
    · rw [List.mem_singleton] at hq
      subst hq
      exact ⟨hp.1, hp.2, hb, by simp⟩
  · rw [if_neg h3] at hq
    by_cases hg : 0 < grz (bp K p) 6 it
    · rw [if_pos hg, List.mem_singleton] at hq
      subst hq
      have g1 := grz_R (b := bp K p) (f := 6) (Or.inl rfl) hi
      have g2 := grz_11 (b := bp K p) (f := 6) (Or.inl rfl) hi
      exact ⟨hp.1, hp.2, hb, Or.inr (Or.inr (Or.inl ⟨rfl, by show 6 ≤ grz (bp K p) 6 it; omega, g2, by show 0 ≤ en (bp K p) (grz (bp K p) 6 it); omega⟩))⟩
    · rw [if_neg hg, List.mem_append] at hq
      have hs := fth_shp hb hi h3 hg
      rcases hq with hq | hq
      · exact crl_pv hp hb (shp_hcv hb hs h3) (Or.inl rfl) q hq
      · unfold mtl at hq
        split at hq
        · cases hq
        · rw [List.mem_singleton] at hq
          subst hq
          exact ⟨hp.1, hp.2, hb, Or.inr (Or.inl ⟨rfl, hs.2.2.2.1⟩)⟩
/-- a way back that may be gone -/
def bok (b : Int → Int) (it : Int) : Prop := b 3 = 1 ∨ 0 < grz b 9 it ∨ (shp b ∧ detz (mxz b (da b 5)) ≠ 0)
theorem bck_pv {K : Int → Int} {p it : Int} (hp : 0 ≤ p ∧ p < 6) (hb : WB (bp K p)) (hi : 0 ≤ it ∧ it ≤ 3) (ho : bok (bp K p) it) : ∀ q ∈ bck (bp K p) p it, pv K q := by
  intro q hq
  unfold bck at hq
  by_cases h3 : bp K p 3 = 1
  · rw [if_pos h3, List.mem_append] at hq
    rcases hq with hq | hq
    · rw [List.mem_singleton] at hq
      subst hq
      exact ⟨hp.1, hp.2, hb, by simp⟩
    · exact crl_pv hp hb (sng_hcv hb h3) (Or.inr rfl) q hq
  · rw [if_neg h3] at hq
    by_cases hg : 0 < grz (bp K p) 9 it
    · rw [if_pos hg, List.mem_singleton] at hq
      subst hq
      have g1 := grz_R (b := bp K p) (f := 9) (Or.inr rfl) hi
      have g2 := grz_11 (b := bp K p) (f := 9) (Or.inr rfl) hi
      exact ⟨hp.1, hp.2, hb, Or.inr (Or.inr (Or.inl ⟨rfl, by show 6 ≤ grz (bp K p) 9 it; omega, g2, by show 0 ≤ en (bp K p) (grz (bp K p) 9 it); omega⟩))⟩
    · rw [if_neg hg, List.mem_append] at hq
      obtain ⟨hs, hd⟩ : shp (bp K p) ∧ detz (mxz (bp K p) (da (bp K p) 5)) ≠ 0 := by
        rcases ho with q | q | q
        · exact absurd q h3
        · exact absurd q hg
        · exact q
      rcases hq with hq | hq
      · unfold mtl at hq
        split at hq
        · cases hq
        · rw [List.mem_singleton] at hq
          subst hq
          exact ⟨hp.1, hp.2, hb, by simp [hs.2.2.2.1, hd]⟩
      · exact crl_pv hp hb (shp_hcv hb hs h3) (Or.inr rfl) q hq
theorem crl_len (b : Int → Int) (kd p : Int) : (crl' b kd p).length ≤ 1 := by
  unfold crl'
  split <;> simp
theorem mtl_len (b : Int → Int) (kd p : Int) : (mtl b kd p).length ≤ 1 := by
  unfold mtl
  split <;> simp
theorem fth_len (b : Int → Int) (p it : Int) : (fth b p it).length ≤ 2 := by
  have h1 := crl_len b 1 p
  have h2 := mtl_len b 2 p
  unfold fth
  split
  · simp
    omega
  · split
    · simp
    · simp
      omega
theorem bck_len (b : Int → Int) (p it : Int) : (bck b p it).length ≤ 2 := by
  have h1 := crl_len b 11 p
  have h2 := mtl_len b 10 p
  unfold bck
  split
  · simp
    omega
  · split
    · simp
    · simp
      omega
theorem rf_forth (h : RF μ M A S L v l) (hk : KA A) (hl : l.length ≤ 37) {p it : Int} (hp : 0 ≤ p) (hp6 : p < 6) (hb : WB (bp (kp A) p)) (hi : 0 ≤ it ∧ it ≤ 3) : ∃ μ', f_Mo_forth M μ (iz p) (iz it) = some μ' ∧ RF μ' M A S L v (l ++ fth (bp (kp A) p) p it) ∧ Out M μ μ' := by
  have kr := rf_KR h hk
  have rc := rf_rc h
  have h60 : bp (kp A) p 6 ≤ 60 := by have := hb.b6; omega
  have cl := crl_len (bp (kp A) p) 1 p
  have g1 := grz_R (b := bp (kp A) p) (f := 6) (Or.inl rfl) hi
  unfold f_Mo_forth f_Mo_forth_61 fth
  rw [rc, Option.bind_some, zi_6, km_grid kr hp hp6 h60 (by omega) hi, Option.bind_some, Option.bind_some, km_single kr hp hp6, Option.bind_some]
  by_cases h3 : bp (kp A) p 3 = 1
  · obtain ⟨m1, s1, k1, o1⟩ := rf_putCurves h hk (by omega) (kd := 1) hp hp6 hb (sng_hcv hb h3)
    obtain ⟨m2, s2, k2, o2⟩ := rf_put k1 (by rw [List.length_append]; omega) 4 p 0 0
    refine ⟨m2, ?_, ?_, o1.tr o2⟩
    · rw [if_pos h3, if_neg (by decide), Option.bind_some, zi_1, s1, Option.bind_some, rf_rc k1, Option.bind_some, zi_4, zi_0, s2, Option.bind_some]
    · rw [if_pos h3, ← List.append_assoc]
      exact k2
  · rw [if_neg h3, if_neg h3, if_pos (by decide)]
    by_cases hg : 0 < grz (bp (kp A) p) 6 it
    · obtain ⟨m1, s1, k1, o1⟩ := rf_put h (by omega) 3 p (grz (bp (kp A) p) 6 it) 0
      refine ⟨m1, ?_, ?_, o1⟩
      · rw [zi_0, if_neg (fun q => by have := (iz_le (iR_s (by omega) (by omega)) (iR_s (by omega) (by omega))).mp q; omega), Option.bind_some, zi_3, s1, Option.bind_some]
      · rw [if_pos hg]
        exact k1
    · have hs := fth_shp hb hi h3 hg
      obtain ⟨m1, s1, k1, o1⟩ := rf_putCurves h hk (by omega) (kd := 1) hp hp6 hb (shp_hcv hb hs h3)
      obtain ⟨m2, s2, k2, o2⟩ := rf_putMatrix k1 hk (by rw [List.length_append]; omega) (kd := 2) hp hp6 hb hs.2.2.2.1
      refine ⟨m2, ?_, ?_, o1.tr o2⟩
      · rw [zi_0, if_pos ((iz_le (iR_s (by omega) (by omega)) (iR_s (by omega) (by omega))).mpr (by omega)), Option.bind_some, zi_1, s1, Option.bind_some, rf_rc k1, Option.bind_some, zi_2, s2, Option.bind_some]
      · rw [if_neg hg, ← List.append_assoc]
        exact k2
theorem rf_back (h : RF μ M A S L v l) (hk : KA A) (hl : l.length ≤ 37) {p it : Int} (hp : 0 ≤ p) (hp6 : p < 6) (hb : WB (bp (kp A) p)) (hi : 0 ≤ it ∧ it ≤ 3) (ho : bok (bp (kp A) p) it) : ∃ μ', f_Mo_backwards M μ (iz p) (iz it) = some μ' ∧ RF μ' M A S L v (l ++ bck (bp (kp A) p) p it) ∧ Out M μ μ' := by
  have kr := rf_KR h hk
  have rc := rf_rc h
  have h60 : bp (kp A) p 6 ≤ 60 := by have := hb.b6; omega
  have cl := mtl_len (bp (kp A) p) 10 p
  have g1 := grz_R (b := bp (kp A) p) (f := 9) (Or.inr rfl) hi
  unfold f_Mo_backwards f_Mo_backwards_65 bck
  rw [rc, Option.bind_some, zi_9, km_grid kr hp hp6 h60 (by omega) hi, Option.bind_some, Option.bind_some, km_single kr hp hp6, Option.bind_some]
  by_cases h3 : bp (kp A) p 3 = 1
  · obtain ⟨m1, s1, k1, o1⟩ := rf_put h (by omega) 9 p 0 0
    obtain ⟨m2, s2, k2, o2⟩ := rf_putCurves k1 hk (by rw [List.length_append]; simp; omega) (kd := 11) hp hp6 hb (sng_hcv hb h3)
    refine ⟨m2, ?_, ?_, o1.tr o2⟩
    · rw [if_pos h3, if_neg (by decide), Option.bind_some, zi_0, s1, Option.bind_some, rf_rc k1, Option.bind_some, zi_11, s2, Option.bind_some]
    · rw [if_pos h3, ← List.append_assoc]
      exact k2
  · rw [if_neg h3, if_neg h3, if_pos (by decide)]
    by_cases hg : 0 < grz (bp (kp A) p) 9 it
    · obtain ⟨m1, s1, k1, o1⟩ := rf_put h (by omega) 3 p (grz (bp (kp A) p) 9 it) 0
      refine ⟨m1, ?_, ?_, o1⟩
      · rw [zi_0, if_neg (fun q => by have := (iz_le (iR_s (by omega) (by omega)) (iR_s (by omega) (by omega))).mp q; omega), Option.bind_some, zi_3, s1, Option.bind_some]
      · rw [if_pos hg]
        exact k1
    · obtain ⟨hs, hd⟩ : shp (bp (kp A) p) ∧ detz (mxz (bp (kp A) p) (da (bp (kp A) p) 5)) ≠ 0 := by
        rcases ho with q | q | q
        · exact absurd q h3
        · exact absurd q hg
        · exact q
      obtain ⟨m1, s1, k1, o1⟩ := rf_putMatrix h hk (by omega) (kd := 10) hp hp6 hb hs.2.2.2.1
      obtain ⟨m2, s2, k2, o2⟩ := rf_putCurves k1 hk (by rw [List.length_append]; omega) (kd := 11) hp hp6 hb (shp_hcv hb hs h3)
      refine ⟨m2, ?_, ?_, o1.tr o2⟩
      · rw [zi_0, if_pos ((iz_le (iR_s (by omega) (by omega)) (iR_s (by omega) (by omega))).mpr (by omega)), Option.bind_some, zi_10, s1, Option.bind_some, rf_rc k1, Option.bind_some, zi_11, s2, Option.bind_some]
      · rw [if_neg hg, ← List.append_assoc]
        exact k2
end WAY
