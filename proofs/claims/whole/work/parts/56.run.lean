/-! A piece as the document has it; the reference's run of one. -/
def whz (b : Int → Int) (i : Int) : Int := if da b 12 < 0 then dz i else wz b (da b 12 + 2 + 2 * i)
abbrev shp (b : Int → Int) : Prop := 0 ≤ en b 2 ∧ 0 ≤ en b 3 ∧ 0 ≤ en b 4 ∧ 0 ≤ en b 5 ∧ b 4 = 0
/-- what the bytes of a kept profile keep -/
def WB (b : Int → Int) : Prop := (∀ i, 0 ≤ b i ∧ b i < 256) ∧ (b 2 = 1 ∨ b 2 = 2) ∧ (b 3 = 1 ∨ b 3 = 3) ∧ (b 4 = 0 ∨ b 4 = 1) ∧ (1 ≤ b 6 ∧ b 6 ≤ 12) ∧ (∀ s, 1 ≤ s → s ≤ 4 → 0 ≤ en b s → EC b (da b s)) ∧ (0 ≤ en b 5 → EM b (da b 5)) ∧ (∀ s, 6 ≤ s → s ≤ 11 → 0 ≤ en b s → EG b (da b s)) ∧ (0 ≤ en b 12 → 0 ≤ da b 12 ∧ da b 12 + 8 ≤ 256) ∧ (b 3 = 1 → 0 ≤ en b 1) ∧ (b 3 = 3 → 0 ≤ en b 6 ∨ shp b)
theorem WB.rg {b : Int → Int} (h : WB b) : ∀ i, 0 ≤ b i ∧ b i < 256 := h.1
theorem WB.b2 {b : Int → Int} (h : WB b) : b 2 = 1 ∨ b 2 = 2 := h.2.1
theorem WB.b3 {b : Int → Int} (h : WB b) : b 3 = 1 ∨ b 3 = 3 := h.2.2.1
theorem WB.b4 {b : Int → Int} (h : WB b) : b 4 = 0 ∨ b 4 = 1 := h.2.2.2.1
theorem WB.b6 {b : Int → Int} (h : WB b) : 1 ≤ b 6 ∧ b 6 ≤ 12 := h.2.2.2.2.1
theorem WB.cur {b : Int → Int} (h : WB b) : ∀ s, 1 ≤ s → s ≤ 4 → 0 ≤ en b s → EC b (da b s) := h.2.2.2.2.2.1
theorem WB.mat {b : Int → Int} (h : WB b) : 0 ≤ en b 5 → EM b (da b 5) := h.2.2.2.2.2.2.1
theorem WB.gri {b : Int → Int} (h : WB b) : ∀ s, 6 ≤ s → s ≤ 11 → 0 ≤ en b s → EG b (da b s) := h.2.2.2.2.2.2.2.1
theorem WB.whi {b : Int → Int} (h : WB b) : 0 ≤ en b 12 → 0 ≤ da b 12 ∧ da b 12 + 8 ≤ 256 := h.2.2.2.2.2.2.2.2.1
theorem WB.way1 {b : Int → Int} (h : WB b) : b 3 = 1 → 0 ≤ en b 1 := h.2.2.2.2.2.2.2.2.2.1
theorem WB.way3 {b : Int → Int} (h : WB b) : b 3 = 3 → 0 ≤ en b 6 ∨ shp b := h.2.2.2.2.2.2.2.2.2.2
theorem da_neg {b : Int → Int} {s : Int} (h : en b s < 0) : da b s = -1 := if_pos h
theorem da_pos {b : Int → Int} {s : Int} (h : 0 ≤ en b s) : da b s = b (en b s + 1) := if_neg (by omega)
theorem whz_R {b : Int → Int} (h : WB b) {i : Int} (h0 : 0 ≤ i) (h1 : i < 3) : lvl (whz b i) := by
  unfold whz
  split
  · have := dz_R h0 h1
    exact ⟨by omega, by omega⟩
  · have a := h.rg (da b 12 + 2 + 2 * i)
    have c := h.rg (da b 12 + 2 + 2 * i + 1)
    unfold wz
    exact ⟨by omega, by omega⟩
def pfz (K : Int → Int) (kd p x y : Int) (c : Int → Int) : Int → Int :=
  if kd = 1 then crvz false (bp K p) (nch (bp K p)) (ocz (bp K p)) c
  else if kd = 2 then matz (mxz (bp K p) (da (bp K p) 5)) 4096 c
  else if kd = 3 then latz (bp K p (da (bp K p) x + 1)) (nbz (bp K p) (da (bp K p) x)) c
  else if kd = 4 then sprz (bp K p 4) c
  else if kd = 5 then v3 (lab0 (c 1)) (lab1 (c 0) (c 1)) (lab2 (c 1) (c 2))
  else if kd = 6 then v3 (xyz0 (c 0) (c 1)) (xyz1 (c 0)) (xyz2 (c 0) (c 2))
  else if kd = 7 then sclz (whz (bp K p)) (whz (bp K x)) c
  else if kd = 8 then blkz x y c
  else if kd = 9 then gatz (bp K p 4) c
  else if kd = 10 then matz (turz (mxz (bp K p) (da (bp K p) 5))) (detz (mxz (bp K p) (da (bp K p) 5))) c
  else crvz true (bp K p) (nch (bp K p)) (ocz (bp K p)) c
def hcv (b : Int → Int) : Prop := ∀ i : Int, 0 ≤ i → i < nch b → EC b (ocz b i)
def PV (K : Int → Int) (kd p x y : Int) : Prop := 0 ≤ p ∧ p < 6 ∧ WB (bp K p) ∧ ((kd = 1 ∧ hcv (bp K p)) ∨ (kd = 2 ∧ 0 ≤ en (bp K p) 5) ∨ (kd = 3 ∧ 6 ≤ x ∧ x ≤ 11 ∧ 0 ≤ en (bp K p) x) ∨ kd = 4 ∨ kd = 5 ∨ kd = 6 ∨ (kd = 7 ∧ 0 ≤ x ∧ x < 6 ∧ WB (bp K x) ∧ ∀ i : Nat, i < 3 → 0 < whz (bp K x) i) ∨ (kd = 8 ∧ 0 ≤ x ∧ x < 32768 ∧ 0 ≤ y ∧ y < 32768) ∨ kd = 9 ∨ (kd = 10 ∧ 0 ≤ en (bp K p) 5 ∧ detz (mxz (bp K p) (da (bp K p) 5)) ≠ 0) ∨ (kd = 11 ∧ hcv (bp K p)))
theorem cz_l (x : Int) : lvl (cz x) := ⟨(cz_R x).1, (cz_R x).2⟩
theorem v3_R {a b c : Int} (h0 : lvl a) (h1 : lvl b) (h2 : lvl c) : ∀ i : Nat, i < 3 → lvl (v3 a b c i) := lt3 h0 h1 h2
theorem pfz_R {K : Int → Int} {kd p x y : Int} {c : Int → Int} (h : PV K kd p x y) (hl : ∀ i : Nat, i < 3 → lvl (c i)) : ∀ i : Nat, i < 3 → lvl (pfz K kd p x y c i) := by
  obtain ⟨h0, h6, hb, h⟩ := h
  rcases h with ⟨rfl, h⟩ | ⟨rfl, h⟩ | ⟨rfl, h⟩ | rfl | rfl | rfl | ⟨rfl, h⟩ | ⟨rfl, h⟩ | rfl | ⟨rfl, h⟩ | ⟨rfl, h⟩
  · exact crv_R h hl
  · exact fun i _ => cz_l _
  · have e := hb.gri x h.1 h.2.1 h.2.2
    exact latz_R ⟨e.2.1, fun j _ _ => hb.rg _⟩ hl
  · exact spr_R (hl 0 (by omega))
  · exact v3_R (cz_l _) (cz_l _) (cz_l _)
  · exact v3_R (cz_l _) (cz_l _) (cz_l _)
  · exact fun i _ => cz_l _
  · exact fun i _ => cz_l _
  · exact gat_R (hl 0 (by omega))
  · exact fun i _ => cz_l _
  · exact crv_R h hl
section RUN
variable {μ : mM} {M : Nat} {A : Nat → Nat → Int32} {S : Nat → Int32} {L : Nat → Int64} {v o m : Int → Int}
theorem km_white {K : Int → Int} (h : KR μ M K) {p i : Int} (hp : 0 ≤ p) (hp6 : p < 6) (hb : WB (bp K p)) (h0 : 0 ≤ i) (h1 : i < 3) : f_Mo_white μ M (iz p) (iz i) = some (iz (whz (bp K p) i)) := by
  unfold f_Mo_white f_Mo_white_31
  have hb6 := hb.b6
  rw [h.1, Option.bind_some, zi_12, km_data h hp hp6 (iR_s (by omega) (by omega)) (by omega), Option.bind_some, Option.bind_some, zi_0]
  unfold whz
  by_cases hn : en (bp K p) 12 < 0
  · rw [da_neg hn, if_neg (by decide), if_pos (by omega), mo_point h0 h1]
    rfl
  · have hw := hb.whi (by omega)
    rw [if_pos ((iz_le (iR_s (by omega) (by omega)) (iR_s (by omega) (by omega))).mpr hw.1), if_neg (by omega), zi_2, iz_add, iz_mul, iz_add, km_word h hp hp6 (by omega) (by omega)]
    rfl
theorem nm_gs (h : NM μ M A S L v o m) {k : Nat} (hk : k < 40) : mgI μ (some (M + 9)) (nI k) = some (A 12 k) ∧ mgI μ (some (M + 10)) (nI k) = some (A 13 k) ∧ mgI μ (some (M + 11)) (nI k) = some (A 14 k) ∧ mgI μ (some (M + 12)) (nI k) = some (A 15 k) := by
  obtain ⟨J, h1, -⟩ := h
  exact ⟨mo_g12 h1 hk, mo_g13 h1 hk, mo_g14 h1 hk, mo_g15 h1 hk⟩
theorem nm_s7 (h : NM μ M A S L v o m) (hk : KA A) {k : Nat} (hk40 : k < 40) {p x : Int} (hp : 0 ≤ p) (hp6 : p < 6) (hb : WB (bp (kp A) p)) (hx : 0 ≤ x) (hx6 : x < 6) (hbx : WB (bp (kp A) x)) (e14 : A 14 k = iz x) (kx : mM → Option mM) {fu : Nat} {i : Int} (h0 : 0 ≤ i) (h1 : i < 3) (hl : lvl (o i)) (hw : 0 < whz (bp (kp A) x) i) : ∃ μ', f_Mo_run_152 M kx (fu + 1) μ (nI k) (iz p) (iz i) = f_Mo_run_152 M kx fu μ' (nI k) (iz p) (iz (i + 1)) ∧ NM μ' M A S L (zu v i (sclz (whz (bp (kp A) p)) (whz (bp (kp A) x)) o i)) o m ∧ Out M μ μ' := by
  have kr := nm_KR h hk
  have w1 := whz_R hb h0 h1
  have w2 := whz_R hbx h0 h1
  have hn := scl_n hl w1 ⟨hw, w2.2⟩
  obtain ⟨m1, s1, k1, o1⟩ := nm_sv h h0 h1 (sclz (whz (bp (kp A) p)) (whz (bp (kp A) x)) o i)
  refine ⟨m1, ?_, k1, o1⟩
  rw [f_Mo_run_152, zi_3, if_neg (fun q => by have := (iz_le (iR_s (by omega) (by omega)) (iR_s (by omega) (by omega))).mp q; omega)]
  rw [nm_f18 h, Option.bind_some, nm_f19 h, Option.bind_some, nm_go h h0 h1, Option.bind_some, nm_rc h, Option.bind_some, km_white kr hp hp6 hb h0 h1, Option.bind_some, (nm_fs h).2.2.2.1, Option.bind_some, (nm_gs h hk40).2.2.1, Option.bind_some, e14, Option.bind_some, km_white kr hx hx6 hbx h0 h1, Option.bind_some, iz_j (iR_l w1), iz_j (iR_l w2), jz_mul, mo_clipNear hn, Option.bind_some]
  change (msJ μ (some (M + 14)) (iz i) (jz (sclz (whz (bp (kp A) p)) (whz (bp (kp A) x)) o i))).bind _ = _
  rw [s1, Option.bind_some, zi_1, iz_add]
theorem nm_s8 (h : NM μ M A S L v o m) {k : Nat} (hk40 : k < 40) {x y : Int} (hx : 0 ≤ x ∧ x < 32768) (hy : 0 ≤ y ∧ y < 32768) (e14 : A 14 k = iz x) (e15 : A 15 k = iz y) (kx : mM → Option mM) {fu : Nat} {i : Int} (h0 : 0 ≤ i) (h1 : i < 3) (hl : lvl (o i)) : ∃ μ', f_Mo_run_203 M kx (fu + 1) μ (nI k) (iz i) = f_Mo_run_203 M kx fu μ' (nI k) (iz (i + 1)) ∧ NM μ' M A S L (zu v i (blkz x y o i)) o m ∧ Out M μ μ' := by
  have hd := dz_R h0 h1
  obtain ⟨hn, hj⟩ := blk_n hl hd hx hy
  have ep : f_Mo_point μ (iz i) = some (iz (dz i)) := mo_point h0 h1
  obtain ⟨m1, s1, k1, o1⟩ := nm_sv h h0 h1 (blkz x y o i)
  refine ⟨m1, ?_, k1, o1⟩
  rw [f_Mo_run_203, zi_3, if_neg (fun q => by have := (iz_le (iR_s (by omega) (by omega)) (iR_s (by omega) (by omega))).mp q; omega)]
  rw [nm_f18 h, Option.bind_some, ep, Option.bind_some, Option.bind_some, nm_f19 h, Option.bind_some, nm_go h h0 h1, Option.bind_some, (nm_fs h).2.2.2.2.1, Option.bind_some, (nm_gs h hk40).2.2.2, Option.bind_some, (nm_fs h).2.2.2.1, Option.bind_some, (nm_gs h hk40).2.2.1, Option.bind_some, e14, e15, iz_j (iR_s (by omega) (by omega)), iz_j (iR_s (by omega) (by omega)), iz_j (iR_s (by omega) (by omega)), zj_32768, jz_sub, jz_sub, jz_sub, jz_mul, mo_near hn, Option.bind_some, jz_sub, mo_clip hj, Option.bind_some]
  change (msJ μ (some (M + 14)) (iz i) (jz (blkz x y o i))).bind _ = _
  rw [s1, Option.bind_some, zi_1, iz_add]
theorem nm_cp (h : NM μ M A S L v o m) (kx : mM → Int32 → Int32 → Option mM) {fu : Nat} {x1 x2 : Int32} {i : Int} (h0 : 0 ≤ i) (h1 : i < 3) : ∃ μ', f_Mo_run_9 M kx (fu + 1) μ x1 x2 (iz i) = f_Mo_run_9 M kx fu μ' x1 x2 (iz (i + 1)) ∧ NM μ' M A S L v (zu o i (v i)) m ∧ Out M μ μ' := by
  obtain ⟨m1, s1, k1, o1⟩ := nm_so h h0 h1 (v i)
  refine ⟨m1, ?_, k1, o1⟩
  rw [f_Mo_run_9, zi_3, if_neg (fun q => by have := (iz_le (iR_s (by omega) (by omega)) (iR_s (by omega) (by omega))).mp q; omega), nm_f19 h, Option.bind_some, nm_f18 h, Option.bind_some, nm_gv h h0 h1, Option.bind_some, s1, Option.bind_some, zi_1, iz_add]
theorem nm_run32 (h : NM μ M A S L v v m) (hk : KA A) {k : Nat} (hk40 : k < 40) {kd p x y : Int} (hV : PV (kp A) kd p x y) (e12 : A 12 k = iz kd) (e14 : A 14 k = iz x) (e15 : A 15 k = iz y) (hl : ∀ i : Nat, i < 3 → lvl (v i)) : ∃ μ' o' m', f_Mo_run_32 M μ (nI k) (iz p) = some μ' ∧ NM μ' M A S L (pfz (kp A) kd p x y v) o' m' ∧ Out M μ μ' := by
  obtain ⟨hp, hp6, hb, hc⟩ := hV
  have h60 : bp (kp A) p 6 ≤ 60 := by have := hb.b6; omega
  have rc := nm_rc h
  unfold f_Mo_run_32 f_Mo_run_292
  rw [(nm_fs h).2.1, Option.bind_some, (nm_gs h hk40).1, Option.bind_some, e12]
  rcases hc with ⟨rfl, hc⟩ | ⟨rfl, hc⟩ | ⟨rfl, hc⟩ | rfl | rfl | rfl | ⟨rfl, hc⟩ | ⟨rfl, hc⟩ | rfl | ⟨rfl, hc⟩ | ⟨rfl, hc⟩
  · obtain ⟨m1, s1, k1, o1⟩ := nm_crv h (fun _ _ => rfl) hk hp hp6 h60 false hc hl
    refine ⟨m1, _, _, ?_, k1, o1⟩
    rw [if_pos (by decide), rc, Option.bind_some, show (0 : Int32) = iz (bI false) by decide, s1, Option.bind_some]
  · obtain ⟨m1, s1, k1, o1⟩ := nm_mat h hk hp hp6 h60 (hb.mat hc) hl
    refine ⟨m1, _, _, ?_, k1, o1⟩
    rw [if_neg (by decide), if_pos (by decide), rc, Option.bind_some, s1, Option.bind_some]
  · obtain ⟨m1, o', s1, k1, o1⟩ := nm_lat h hk hp hp6 (hb.gri x hc.1 hc.2.1 hc.2.2) hl
    refine ⟨m1, _, _, ?_, k1, o1⟩
    rw [if_neg (by decide), if_neg (by decide), if_pos (by decide), (nm_fs h).2.2.2.1, Option.bind_some, (nm_gs h hk40).2.2.1, Option.bind_some, e14, rc, Option.bind_some, km_data (nm_KR h hk) hp hp6 (iR_s (by omega) (by omega)) h60, Option.bind_some, Option.bind_some, s1, Option.bind_some]
  · obtain ⟨m1, s1, k1, o1⟩ := nm_spr h hk hp hp6 (hl 0 (by omega))
    refine ⟨m1, _, _, ?_, k1, o1⟩
    rw [if_neg (by decide), if_neg (by decide), if_neg (by decide), if_pos (by decide), rc, Option.bind_some, s1, Option.bind_some]
  · obtain ⟨m1, s1, k1, o1⟩ := nm_lab h (hl 0 (by omega)) (hl 1 (by omega)) (hl 2 (by omega))
    refine ⟨m1, _, _, ?_, k1, o1⟩
    rw [if_neg (by decide), if_neg (by decide), if_neg (by decide), if_neg (by decide), if_pos (by decide), rc, Option.bind_some, s1, Option.bind_some]
  · obtain ⟨m1, s1, k1, o1⟩ := nm_xyz h (hl 0 (by omega)) (hl 1 (by omega)) (hl 2 (by omega))
    refine ⟨m1, _, _, ?_, k1, o1⟩
    rw [if_neg (by decide), if_neg (by decide), if_neg (by decide), if_neg (by decide), if_neg (by decide), if_pos (by decide), rc, Option.bind_some, s1, Option.bind_some]
  · obtain ⟨hx, hx6, hbx, hw⟩ := hc
    obtain ⟨m1, s1, k1, o1⟩ := nm_s7 h hk hk40 hp hp6 hb hx hx6 hbx e14 (fun μ => f_Mo_run_198 M μ) (fu := 4095) (i := 0) (by omega) (by omega) (hl 0 (by omega)) (hw 0 (by omega))
    obtain ⟨m2, s2, k2, o2⟩ := nm_s7 k1 hk hk40 hp hp6 hb hx hx6 hbx e14 (fun μ => f_Mo_run_198 M μ) (fu := 4094) (i := 1) (by omega) (by omega) (hl 1 (by omega)) (hw 1 (by omega))
    obtain ⟨m3, s3, k3, o3⟩ := nm_s7 k2 hk hk40 hp hp6 hb hx hx6 hbx e14 (fun μ => f_Mo_run_198 M μ) (fu := 4093) (i := 2) (by omega) (by omega) (hl 2 (by omega)) (hw 2 (by omega))
    refine ⟨m3, _, _, ?_, nm_ext k3 (lt3 (by simp [zu]; rfl) (by simp [zu]; rfl) (by simp [zu]; rfl)) (fun _ _ => rfl) (fun _ _ => rfl), (o1.tr o2).tr o3⟩
    rw [if_neg (by decide), if_neg (by decide), if_neg (by decide), if_neg (by decide), if_neg (by decide), if_neg (by decide), if_pos (by decide), zi_0]
    refine s1.trans (s2.trans (s3.trans ?_))
    rw [f_Mo_run_152, zi_3, if_pos (by decide)]
    rfl
  · obtain ⟨hx, hx2, hy, hy2⟩ := hc
    obtain ⟨m1, s1, k1, o1⟩ := nm_s8 h hk40 ⟨hx, hx2⟩ ⟨hy, hy2⟩ e14 e15 (fun μ => f_Mo_run_267 M μ) (fu := 4095) (i := 0) (by omega) (by omega) (hl 0 (by omega))
    obtain ⟨m2, s2, k2, o2⟩ := nm_s8 k1 hk40 ⟨hx, hx2⟩ ⟨hy, hy2⟩ e14 e15 (fun μ => f_Mo_run_267 M μ) (fu := 4094) (i := 1) (by omega) (by omega) (hl 1 (by omega))
    obtain ⟨m3, s3, k3, o3⟩ := nm_s8 k2 hk40 ⟨hx, hx2⟩ ⟨hy, hy2⟩ e14 e15 (fun μ => f_Mo_run_267 M μ) (fu := 4093) (i := 2) (by omega) (by omega) (hl 2 (by omega))
    refine ⟨m3, _, _, ?_, nm_ext k3 (lt3 (by simp [zu]; rfl) (by simp [zu]; rfl) (by simp [zu]; rfl)) (fun _ _ => rfl) (fun _ _ => rfl), (o1.tr o2).tr o3⟩
    rw [if_neg (by decide), if_neg (by decide), if_neg (by decide), if_neg (by decide), if_neg (by decide), if_neg (by decide), if_neg (by decide), if_pos (by decide), zi_0]
    refine s1.trans (s2.trans (s3.trans ?_))
    rw [f_Mo_run_203, zi_3, if_pos (by decide)]
    rfl
  · obtain ⟨m1, s1, k1, o1⟩ := nm_gat h hk hp hp6 (hl 1 (by omega))
    refine ⟨m1, _, _, ?_, k1, o1⟩
    rw [if_neg (by decide), if_neg (by decide), if_neg (by decide), if_neg (by decide), if_neg (by decide), if_neg (by decide), if_neg (by decide), if_neg (by decide), if_pos (by decide), rc, Option.bind_some, s1, Option.bind_some]
  · obtain ⟨m1, m', s1, k1, o1⟩ := nm_back h hk hp hp6 h60 (hb.mat hc.1) hl rfl hc.2
    refine ⟨m1, _, _, ?_, k1, o1⟩
    rw [if_neg (by decide), if_neg (by decide), if_neg (by decide), if_neg (by decide), if_neg (by decide), if_neg (by decide), if_neg (by decide), if_neg (by decide), if_neg (by decide), if_pos (by decide), rc, Option.bind_some, s1, Option.bind_some]
  · obtain ⟨m1, s1, k1, o1⟩ := nm_crv h (fun _ _ => rfl) hk hp hp6 h60 true hc hl
    refine ⟨m1, _, _, ?_, k1, o1⟩
    rw [if_neg (by decide), if_neg (by decide), if_neg (by decide), if_neg (by decide), if_neg (by decide), if_neg (by decide), if_neg (by decide), if_neg (by decide), if_neg (by decide), if_neg (by decide), rc, Option.bind_some, show (1 : Int32) = iz (bI true) by decide, s1, Option.bind_some]
theorem nm_run (h : NM μ M A S L v o m) (hk : KA A) {k : Nat} (hk40 : k < 40) {kd p x y : Int} (hV : PV (kp A) kd p x y) (e12 : A 12 k = iz kd) (e13 : A 13 k = iz p) (e14 : A 14 k = iz x) (e15 : A 15 k = iz y) (hl : ∀ i : Nat, i < 3 → lvl (v i)) : ∃ μ' o' m', f_Mo_run M μ (nI k) = some μ' ∧ NM μ' M A S L (pfz (kp A) kd p x y v) o' m' ∧ Out M μ μ' := by
  obtain ⟨m1, s1, k1, o1⟩ := nm_cp h (fun μ y1 y2 => f_Mo_run_32 M μ y1 y2) (fu := 4095) (x1 := nI k) (x2 := iz p) (i := 0) (by omega) (by omega)
  obtain ⟨m2, s2, k2, o2⟩ := nm_cp k1 (fun μ y1 y2 => f_Mo_run_32 M μ y1 y2) (fu := 4094) (x1 := nI k) (x2 := iz p) (i := 1) (by omega) (by omega)
  obtain ⟨m3, s3, k3, o3⟩ := nm_cp k2 (fun μ y1 y2 => f_Mo_run_32 M μ y1 y2) (fu := 4093) (x1 := nI k) (x2 := iz p) (i := 2) (by omega) (by omega)
  have K3 : NM m3 M A S L v v m := nm_ext k3 (fun _ _ => rfl) (lt3 (by simp [zu]) (by simp [zu]) (by simp [zu])) (fun _ _ => rfl)
  obtain ⟨m4, o', m', s4', k4, o4⟩ := nm_run32 K3 hk hk40 hV e12 e14 e15 hl
  refine ⟨m4, o', m', ?_, k4, ((o1.tr o2).tr o3).tr o4⟩
  unfold f_Mo_run
  rw [(nm_fs h).2.2.1, Option.bind_some, (nm_gs h hk40).2.1, Option.bind_some, e13, zi_0]
  refine s1.trans (s2.trans (s3.trans ?_))
  rw [f_Mo_run_9, zi_3, if_pos (by decide)]
  exact s4'
end RUN
