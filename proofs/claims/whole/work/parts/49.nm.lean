/-! The reference's three rows of longs (v, old, m) as functions; its bytes. -/
def zu (f : Int → Int) (k x : Int) : Int → Int := fun j => if j = k then x else f j
def v3 (a b c : Int) : Int → Int := fun i => if i = 0 then a else if i = 1 then b else c
def Out (M : Nat) (μ μ' : mM) : Prop := ∀ b, b < M ∨ M + 16 < b → μ' b = μ b
theorem Out.rf {M : Nat} {μ : mM} : Out M μ μ := fun _ _ => rfl
theorem Out.tr {M : Nat} {μ μ1 μ2 : mM} (h1 : Out M μ μ1) (h2 : Out M μ1 μ2) : Out M μ μ2 := fun b hb => (h2 b hb).trans (h1 b hb)
def NM (μ : mM) (M : Nat) (A : Nat → Nat → Int32) (S : Nat → Int32) (L : Nat → Int64) (v o m : Int → Int) : Prop := ∃ J : Nat → Nat → Int64, Mo μ M A J S ∧ J 9 = L ∧ (∀ i : Nat, i < 3 → J 18 i = jz (v i)) ∧ (∀ i : Nat, i < 3 → J 19 i = jz (o i)) ∧ (∀ i : Nat, i < 9 → J 20 i = jz (m i))
section NMS
variable {μ : mM} {M : Nat} {A : Nat → Nat → Int32} {S : Nat → Int32} {L : Nat → Int64} {v o m : Int → Int}
theorem nm_ext (h : NM μ M A S L v o m) {v' o' m' : Int → Int} (hv : ∀ i : Nat, i < 3 → v i = v' i) (ho : ∀ i : Nat, i < 3 → o i = o' i) (hm : ∀ i : Nat, i < 9 → m i = m' i) : NM μ M A S L v' o' m' := by
  obtain ⟨J, h1, h2, h3, h4, h5⟩ := h
  exact ⟨J, h1, h2, fun i hi => by rw [← hv i hi]; exact h3 i hi, fun i hi => by rw [← ho i hi]; exact h4 i hi, fun i hi => by rw [← hm i hi]; exact h5 i hi⟩
theorem nm_rc (h : NM μ M A S L v o m) : mrc μ (some M) 11 = some M := by
  obtain ⟨J, h1, -⟩ := h
  exact mo_rc h1
theorem nm_fs (h : NM μ M A S L v o m) : mfA μ (some M) [11] 2 = some (some (M + 2)) ∧ mfA μ (some M) [11] 12 = some (some (M + 9)) ∧ mfA μ (some M) [11] 13 = some (some (M + 10)) ∧ mfA μ (some M) [11] 14 = some (some (M + 11)) ∧ mfA μ (some M) [11] 15 = some (some (M + 12)) ∧ mfA μ (some M) [11] 18 = some (some (M + 14)) ∧ mfA μ (some M) [11] 19 = some (some (M + 15)) ∧ mfA μ (some M) [11] 20 = some (some (M + 16)) := by
  obtain ⟨J, h1, -⟩ := h
  exact ⟨mo_f2 h1, mo_f12 h1, mo_f13 h1, mo_f14 h1, mo_f15 h1, mo_f18 h1, mo_f19 h1, mo_f20 h1⟩
theorem nm_f18 (h : NM μ M A S L v o m) : mfA μ (some M) [11] 18 = some (some (M + 14)) := (nm_fs h).2.2.2.2.2.1
theorem nm_f19 (h : NM μ M A S L v o m) : mfA μ (some M) [11] 19 = some (some (M + 15)) := (nm_fs h).2.2.2.2.2.2.1
theorem nm_f20 (h : NM μ M A S L v o m) : mfA μ (some M) [11] 20 = some (some (M + 16)) := (nm_fs h).2.2.2.2.2.2.2
theorem nm_gv (h : NM μ M A S L v o m) {i : Int} (h0 : 0 ≤ i) (h1 : i < 3) : mgJ μ (some (M + 14)) (iz i) = some (jz (v i)) := by
  obtain ⟨J, e1, e2, e3, e4, e5⟩ := h
  rw [iz_nat h0, mo_g18 e1 (by omega), e3 _ (by omega), Int.toNat_of_nonneg h0]
theorem nm_go (h : NM μ M A S L v o m) {i : Int} (h0 : 0 ≤ i) (h1 : i < 3) : mgJ μ (some (M + 15)) (iz i) = some (jz (o i)) := by
  obtain ⟨J, e1, e2, e3, e4, e5⟩ := h
  rw [iz_nat h0, mo_g19 e1 (by omega), e4 _ (by omega), Int.toNat_of_nonneg h0]
theorem nm_gm (h : NM μ M A S L v o m) {i : Int} (h0 : 0 ≤ i) (h1 : i < 9) : mgJ μ (some (M + 16)) (iz i) = some (jz (m i)) := by
  obtain ⟨J, e1, e2, e3, e4, e5⟩ := h
  rw [iz_nat h0, mo_g20 e1 (by omega), e5 _ (by omega), Int.toNat_of_nonneg h0]
theorem zu_row {f : Nat → Int64} {g : Int → Int} {n : Nat} {i : Int} (h0 : 0 ≤ i) (x : Int) (h : ∀ j : Nat, j < n → f j = jz (g j)) : ∀ j : Nat, j < n → vp_updL f i.toNat (jz x) j = jz (zu g i x j) := by
  intro j hj
  unfold vp_updL zu
  by_cases e : j = i.toNat
  · rw [if_pos e, if_pos (by omega)]
  · rw [if_neg e, if_neg (by omega), h j hj]
theorem nm_sv (h : NM μ M A S L v o m) {i : Int} (h0 : 0 ≤ i) (h1 : i < 3) (x : Int) : ∃ μ', msJ μ (some (M + 14)) (iz i) (jz x) = some μ' ∧ NM μ' M A S L (zu v i x) o m ∧ Out M μ μ' := by
  obtain ⟨J, e1, e2, e3, e4, e5⟩ := h
  refine ⟨_, by rw [iz_nat h0]; exact mo_s18 e1 (by omega), ⟨_, mo_u18 e1 _, e2, ?_, e4, e5⟩, fun b hb => mup_ne _ _ (by omega)⟩
  exact zu_row h0 x e3
theorem nm_so (h : NM μ M A S L v o m) {i : Int} (h0 : 0 ≤ i) (h1 : i < 3) (x : Int) : ∃ μ', msJ μ (some (M + 15)) (iz i) (jz x) = some μ' ∧ NM μ' M A S L v (zu o i x) m ∧ Out M μ μ' := by
  obtain ⟨J, e1, e2, e3, e4, e5⟩ := h
  refine ⟨_, by rw [iz_nat h0]; exact mo_s19 e1 (by omega), ⟨_, mo_u19 e1 _, e2, e3, ?_, e5⟩, fun b hb => mup_ne _ _ (by omega)⟩
  exact zu_row h0 x e4
theorem nm_sm (h : NM μ M A S L v o m) {i : Int} (h0 : 0 ≤ i) (h1 : i < 9) (x : Int) : ∃ μ', msJ μ (some (M + 16)) (iz i) (jz x) = some μ' ∧ NM μ' M A S L v o (zu m i x) ∧ Out M μ μ' := by
  obtain ⟨J, e1, e2, e3, e4, e5⟩ := h
  refine ⟨_, by rw [iz_nat h0]; exact mo_s20 e1 (by omega), ⟨_, mo_u20 e1 _, e2, e3, e4, ?_⟩, fun b hb => mup_ne _ _ (by omega)⟩
  exact zu_row h0 x e5
/-- the kept bytes as whole numbers -/
def kp (A : Nat → Nat → Int32) : Int → Int := fun i => if 0 ≤ i ∧ i < 1536 then (A 2 i.toNat).toInt else 0
def KA (A : Nat → Nat → Int32) : Prop := ∀ i : Nat, i < 1536 → 0 ≤ (A 2 i).toInt ∧ (A 2 i).toInt < 256
theorem mo_KR {J : Nat → Nat → Int64} (h : Mo μ M A J S) (hk : KA A) : KR μ M (kp A) := by
  refine ⟨mo_rc h, mo_f2 h, fun i h0 h1 => ?_, fun i => ?_⟩
  · rw [iz_nat h0, mo_g2 h (by omega)]
    unfold kp
    rw [if_pos ⟨h0, h1⟩, iz_of]
  · unfold kp
    split
    · rename_i h
      exact hk _ (by omega)
    · omega
theorem nm_KR (h : NM μ M A S L v o m) (hk : KA A) : KR μ M (kp A) := by
  obtain ⟨J, e1, -⟩ := h
  exact mo_KR e1 hk
theorem mo_point {μ : mM} {i : Int} (h0 : 0 ≤ i) (h1 : i < 3) : f_Mo_point μ (iz i) = some (iz (v3 31595 32768 27030 i)) := by
  have h : i = 0 ∨ i = 1 ∨ i = 2 := by omega
  rcases h with rfl | rfl | rfl
  · exact rfl
  · exact rfl
  · exact rfl
-- TO LAB and TO XYZ
theorem nm_lab (h : NM μ M A S L v o m) (h0 : lvl (o 0)) (h1 : lvl (o 1)) (h2 : lvl (o 2)) : ∃ μ', f_Mo_toLab M μ = some μ' ∧ NM μ' M A S L (v3 (lab0 (o 1)) (lab1 (o 0) (o 1)) (lab2 (o 1) (o 2))) o m ∧ Out M μ μ' := by
  obtain ⟨n1, n2, n3, n4, n5⟩ := lab_n h0 h1 h2
  obtain ⟨m1, s1, k1, o1⟩ := nm_sv h (i := 0) (by omega) (by omega) (lab0 (o 1))
  obtain ⟨m2, s2, k2, o2⟩ := nm_sv k1 (i := 1) (by omega) (by omega) (lab1 (o 0) (o 1))
  obtain ⟨m3, s3, k3, o3⟩ := nm_sv k2 (i := 2) (by omega) (by omega) (lab2 (o 1) (o 2))
  refine ⟨m3, ?_, nm_ext k3 (fun i hi => ?_) (fun _ _ => rfl) (fun _ _ => rfl), (o1.tr o2).tr o3⟩
  · have g0 := nm_go h (i := 0) (by omega) (by omega)
    have g1 := nm_go h (i := 1) (by omega) (by omega)
    have g2 := nm_go h (i := 2) (by omega) (by omega)
    unfold f_Mo_toLab
    rw [zi_0, zi_1, zi_2, nm_f19 h, Option.bind_some, g0, Option.bind_some, zj_31595, mo_root h0.1 h0.2 (by omega) (by omega), Option.bind_some]
    rw [Option.bind_some, g1, Option.bind_some, zj_32768, mo_root h1.1 h1.2 (by omega) (by omega), Option.bind_some]
    rw [Option.bind_some, g2, Option.bind_some, zj_27030, mo_root h2.1 h2.2 (by omega) (by omega), Option.bind_some]
    rw [nm_f18 h, Option.bind_some, zj_116, zj_262144, zj_65535, zj_1638400, zj_128500, zj_16384, zj_51400, zj_32896, jz_mul, jz_sub, jz_mul, jz_sub, jz_mul, jz_sub, jz_mul]
    rw [mo_clipNear n1, Option.bind_some]
    change (msJ μ (some (M + 14)) (iz 0) (jz (lab0 (o 1)))).bind _ = _
    rw [s1, Option.bind_some, nm_f18 k1, Option.bind_some, mo_near n2, Option.bind_some, jz_add, mo_clip n4, Option.bind_some]
    change (msJ m1 (some (M + 14)) (iz 1) (jz (lab1 (o 0) (o 1)))).bind _ = _
    rw [s2, Option.bind_some, nm_f18 k2, Option.bind_some, mo_near n3, Option.bind_some, jz_add, mo_clip n5, Option.bind_some]
    change (msJ m2 (some (M + 14)) (iz 2) (jz (lab2 (o 1) (o 2)))).bind _ = _
    rw [s3, Option.bind_some]
  · have h : i = 0 ∨ i = 1 ∨ i = 2 := by omega
    rcases h with rfl | rfl | rfl <;> simp [zu, v3]
theorem nm_xyz (h : NM μ M A S L v o m) (h0 : lvl (o 0)) (h1 : lvl (o 1)) (h2 : lvl (o 2)) : ∃ μ', f_Mo_toXyz M μ = some μ' ∧ NM μ' M A S L (v3 (xyz0 (o 0) (o 1)) (xyz1 (o 0)) (xyz2 (o 0) (o 2))) o m ∧ Out M μ μ' := by
  obtain ⟨n1, n2, n3, y, x, w⟩ := xyz_n h0 h1 h2
  have cx := cubez_R x.1 x.2
  have cy := cubez_R y.1 y.2
  have cw' := cubez_R w.1 w.2
  have n4 : nR (31595 * cubez (yz (o 0) + nz ((o 1 - 32896) * 16384) 128500)) 32768 := ⟨by omega, by omega, by omega, by omega⟩
  have n5 : nR (27030 * cubez (yz (o 0) - nz ((o 2 - 32896) * 16384) 51400)) 32768 := ⟨by omega, by omega, by omega, by omega⟩
  have n6 : jR (cubez (yz (o 0))) := jR_s (by omega) (by omega)
  have ey : nz ((100 * o 0 + 1048560) * 16384) 7602060 = yz (o 0) := rfl
  obtain ⟨m1, s1, k1, o1⟩ := nm_sv h (i := 0) (by omega) (by omega) (xyz0 (o 0) (o 1))
  obtain ⟨m2, s2, k2, o2⟩ := nm_sv k1 (i := 1) (by omega) (by omega) (xyz1 (o 0))
  obtain ⟨m3, s3, k3, o3⟩ := nm_sv k2 (i := 2) (by omega) (by omega) (xyz2 (o 0) (o 2))
  refine ⟨m3, ?_, nm_ext k3 (fun i hi => ?_) (fun _ _ => rfl) (fun _ _ => rfl), (o1.tr o2).tr o3⟩
  · have g0 := nm_go h (i := 0) (by omega) (by omega)
    have g1 := nm_go h (i := 1) (by omega) (by omega)
    have g2 := nm_go h (i := 2) (by omega) (by omega)
    unfold f_Mo_toXyz
    rw [zi_0, zi_1, zi_2, zj_100, zj_1048560, zj_16384, zj_7602060, zj_128500, zj_51400, zj_32768, zj_32896, zj_31595, zj_27030]
    rw [nm_f19 h, Option.bind_some, g0, Option.bind_some, jz_mul, jz_add, jz_mul, mo_near n1, Option.bind_some, ey]
    rw [Option.bind_some, g1, Option.bind_some, jz_sub, jz_mul, mo_near n2, Option.bind_some]
    rw [Option.bind_some, g2, Option.bind_some, jz_sub, jz_mul, mo_near n3, Option.bind_some]
    rw [jz_add, mo_cube x.1 x.2, Option.bind_some, jz_sub, mo_cube w.1 w.2, Option.bind_some, nm_f18 h, Option.bind_some, jz_mul, mo_clipNear n4, Option.bind_some]
    change (msJ μ (some (M + 14)) (iz 0) (jz (xyz0 (o 0) (o 1)))).bind _ = _
    rw [s1, Option.bind_some, nm_f18 k1, Option.bind_some, mo_cube y.1 y.2, Option.bind_some, mo_clip n6, Option.bind_some]
    change (msJ m1 (some (M + 14)) (iz 1) (jz (xyz1 (o 0)))).bind _ = _
    rw [s2, Option.bind_some, nm_f18 k2, Option.bind_some, jz_mul, mo_clipNear n5, Option.bind_some]
    change (msJ m2 (some (M + 14)) (iz 2) (jz (xyz2 (o 0) (o 2)))).bind _ = _
    rw [s3, Option.bind_some]
  · have h : i = 0 ∨ i = 1 ∨ i = 2 := by omega
    rcases h with rfl | rfl | rfl <;> simp [zu, v3]
end NMS
