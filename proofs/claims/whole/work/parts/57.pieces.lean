/-! The class's pieces: what a run of one does, whatever the piece is. -/
def Sc (φ : mM) (b : Nat) : Prop := ∃ a fs, φ a = some (.inr (5, fs)) ∧ fs[5]? = some (Value.ref b)
def SOK (φ : mM) (ca : Nat) (μ : mM) : Prop := ∀ b, Sc φ b → φ b = none ∧ b ≠ ca ∧ ∃ w, CF μ b w
def Keep (φ : mM) (ca : Nat) (μ μ' : mM) : Prop := (∀ b, b ≠ ca → ¬ Sc φ b → μ' b = μ b) ∧ ∀ b, Sc φ b → ∃ w, CF μ' b w
def lv3 (c : Int → Int) : Prop := ∀ i : Nat, i < 3 → lvl (c i)
def PcR (φ : mM) (a : Nat) (kd : Int) (F : (Int → Int) → Int → Int) : Prop := (∃ ci fs, φ a = some (.inr (ci, fs)) ∧ fs[0]? = some (Value.int (iz kd)) ∧ [0, 3, 4, 5, 6, 8].contains ci = true) ∧ ∀ μ ca c, Fr φ μ → φ ca = none → SOK φ ca μ → CF μ ca c → lv3 c → ∃ μ', f_Piece_run a μ (some ca) = some μ' ∧ CF μ' ca (F c) ∧ Keep φ ca μ μ'
theorem Fr.rf {φ : mM} : Fr φ φ := fun _ _ h => h
theorem Fr.tr {φ ψ μ : mM} (h : Fr φ ψ) (h2 : Fr ψ μ) : Fr φ μ := fun a e q => h2 a e (h a e q)
theorem Fr.none {φ ψ : mM} (h : Fr φ ψ) {a : Nat} (q : ψ a = none) : φ a = none := by
  cases e : φ a with
  | none => rfl
  | some x => rw [h a x e] at q; cases q
theorem Sc.mono {φ ψ : mM} (h : Fr φ ψ) {b : Nat} (q : Sc φ b) : Sc ψ b := by
  obtain ⟨a, fs, h1, h2⟩ := q
  exact ⟨a, fs, h a _ h1, h2⟩
theorem PcR.mono {φ ψ : mM} {a : Nat} {kd : Int} {F : (Int → Int) → Int → Int} (h : PcR φ a kd F) (hf : Fr φ ψ) : PcR ψ a kd F := by
  obtain ⟨⟨ci, fs, h1, h2, h3⟩, h4⟩ := h
  refine ⟨⟨ci, fs, hf _ _ h1, h2, h3⟩, fun μ ca c q1 q2 q3 q4 q5 => ?_⟩
  obtain ⟨μ', e1, e2, e3, e4⟩ := h4 μ ca c (hf.tr q1) (hf.none q2) (fun b hb => ⟨hf.none (q3 b (hb.mono hf)).1, (q3 b (hb.mono hf)).2⟩) q4 q5
  refine ⟨μ', e1, e2, fun b hb hs => e3 b hb (fun q => hs (q.mono hf)), fun b hb => ?_⟩
  by_cases hs : Sc φ b
  · exact e4 b hs
  · obtain ⟨w, hw⟩ := (q3 b hb).2.2
    exact ⟨w, cf_tr hw (e3 b (q3 b hb).2.1 hs)⟩
theorem Keep.of {φ μ μ' : mM} {ca : Nat} (h : SOK φ ca μ) (o : ∀ b, b ≠ ca → μ' b = μ b) : Keep φ ca μ μ' := by
  refine ⟨fun b hb _ => o b hb, fun b hb => ?_⟩
  obtain ⟨w, hw⟩ := (h b hb).2.2
  exact ⟨w, cf_tr hw (o b (h b hb).2.1)⟩
theorem Keep.fr {φ μ μ' : mM} {ca : Nat} (h : Keep φ ca μ μ') (hs : SOK φ ca μ) (hF : Fr φ μ) (hca : φ ca = none) : Fr φ μ' := by
  intro a e he
  have h1 : a ≠ ca := fun q => by rw [q, hca] at he; cases he
  have h2 : ¬ Sc φ a := fun q => by rw [(hs a q).1] at he; cases he
  rw [h.1 a h1 h2]
  exact hF a e he
theorem Keep.sok {φ μ μ' : mM} {ca : Nat} (h : Keep φ ca μ μ') (hs : SOK φ ca μ) : SOK φ ca μ' := fun b hb => ⟨(hs b hb).1, (hs b hb).2.1, h.2 b hb⟩
theorem Keep.rf {φ μ : mM} {ca : Nat} (hs : SOK φ ca μ) : Keep φ ca μ μ := ⟨fun _ _ _ => rfl, fun b hb => (hs b hb).2.2⟩
theorem Keep.tr {φ μ μ1 μ2 : mM} {ca : Nat} (h : Keep φ ca μ μ1) (h2 : Keep φ ca μ1 μ2) : Keep φ ca μ μ2 := ⟨fun b hb hs => (h2.1 b hb hs).trans (h.1 b hb hs), h2.2⟩
theorem pc_curves {φ : mM} {a : Nat} {kd n : Int} {b oc : Int → Int} (hs : CS φ a kd n b oc) (hkd : kd = 1 ∨ kd = 11) : PcR φ a kd (crvz (decide (kd = 11)) b n oc) := by
  have hs' := hs
  obtain ⟨lo, ra, f, h1, h2, h3, h4⟩ := hs
  refine ⟨⟨3, _, h1, rfl, rfl⟩, fun μ ca c q1 q2 q3 q4 q5 => ?_⟩
  obtain ⟨m1, s1, k1, o1⟩ := cs_run hs' hkd q2 q1 q4 q5
  refine ⟨m1, ?_, k1, Keep.of q3 o1⟩
  unfold f_Piece_run
  rw [q1 _ _ h1]
  exact s1
theorem pc_matrix {φ : mM} {a : Nat} {kd d : Int} {f : Int → Int} (hs : MX φ a kd f d) (hn : ∀ c, lv3 c → ∀ i : Int, 0 ≤ i → i < 3 → nRs (sum3 f c i) d) : PcR φ a kd (matz f d) := by
  have hs' := hs
  obtain ⟨lo, fa, g, h1, h2, h3⟩ := hs
  refine ⟨⟨8, _, h1, rfl, rfl⟩, fun μ ca c q1 q2 q3 q4 q5 => ?_⟩
  obtain ⟨m1, s1, k1, o1⟩ := mx_run hs' q2 q1 q4 q5 (hn c q5)
  refine ⟨m1, ?_, k1, Keep.of q3 o1⟩
  unfold f_Piece_run
  rw [q1 _ _ h1]
  exact s1
theorem pc_grid {φ : mM} {a ra : Nat} {g : Int} {nb : Int → Int} (hs : GR φ a g nb ra) : PcR φ a 3 (latz g nb) := by
  have hs' := hs
  obtain ⟨pa, n, st, f, h1, h2, h3⟩ := hs
  refine ⟨⟨5, _, h1, rfl, rfl⟩, fun μ ca c q1 q2 q3 q4 q5 => ?_⟩
  have sc : Sc φ ra := ⟨a, _, h1, rfl⟩
  obtain ⟨w, hw⟩ := (q3 ra sc).2.2
  obtain ⟨m1, s1, k1, ⟨w', k2⟩, o1⟩ := gr_run hs' q2 (q3 ra sc).1 (q3 ra sc).2.1.symm q1 q4 hw q5
  refine ⟨m1, ?_, k1, fun b hb hs => o1 b hb (fun e => hs (e ▸ sc)), fun b hb => ?_⟩
  · unfold f_Piece_run
    rw [q1 _ _ h1]
    exact s1
  · by_cases e : b = ra
    · subst e
      exact ⟨w', k2⟩
    · obtain ⟨w1, hw1⟩ := (q3 b hb).2.2
      exact ⟨w1, cf_tr hw1 (o1 b (q3 b hb).2.1 e)⟩
theorem pc_spread {φ : mM} {a : Nat} {sp : Int} (hs : GY φ a 4 sp) (hsp : sp = 0 ∨ sp = 1) : PcR φ a 4 (sprz sp) := by
  refine ⟨⟨4, _, hs, rfl, rfl⟩, fun μ ca c q1 q2 q3 q4 q5 => ?_⟩
  obtain ⟨m1, s1, k1, o1⟩ := gy_run4 (q1 _ _ hs) hsp q4 q5
  refine ⟨m1, ?_, k1, Keep.of q3 o1⟩
  unfold f_Piece_run
  rw [q1 _ _ hs]
  exact s1
theorem pc_gather {φ : mM} {a : Nat} {sp : Int} (hs : GY φ a 9 sp) (hsp : sp = 0 ∨ sp = 1) : PcR φ a 9 (gatz sp) := by
  refine ⟨⟨4, _, hs, rfl, rfl⟩, fun μ ca c q1 q2 q3 q4 q5 => ?_⟩
  obtain ⟨m1, s1, k1, o1⟩ := gy_run9 (q1 _ _ hs) hsp q4 q5
  refine ⟨m1, ?_, k1, Keep.of q3 o1⟩
  unfold f_Piece_run
  rw [q1 _ _ hs]
  exact s1
def LX (φ : mM) (a : Nat) (kd : Int) : Prop := φ a = some (.inr (6, [.int (iz kd), .int 0]))
theorem pc_lab {φ : mM} {a : Nat} (hs : LX φ a 5) : PcR φ a 5 (fun c => v3 (lab0 (c 1)) (lab1 (c 0) (c 1)) (lab2 (c 1) (c 2))) := by
  refine ⟨⟨6, _, hs, rfl, rfl⟩, fun μ ca c q1 q2 q3 q4 q5 => ?_⟩
  obtain ⟨m1, s1, k1, o1⟩ := lx_lab (cf_ca q4) (q5 0 (by omega)) (q5 1 (by omega)) (q5 2 (by omega))
  refine ⟨m1, ?_, ca_cf k1, Keep.of q3 o1⟩
  have e0 : mfI μ (some a) [6] 0 = some (iz 5) := mfI_i (q1 _ _ hs) rfl rfl
  unfold f_Piece_run
  rw [q1 _ _ hs]
  change f_LabXyz_run a μ (some ca) = _
  unfold f_LabXyz_run f_LabXyz_run_19
  rw [e0, Option.bind_some, if_pos (by decide), s1, Option.bind_some]
theorem pc_xyz {φ : mM} {a : Nat} (hs : LX φ a 6) : PcR φ a 6 (fun c => v3 (xyz0 (c 0) (c 1)) (xyz1 (c 0)) (xyz2 (c 0) (c 2))) := by
  refine ⟨⟨6, _, hs, rfl, rfl⟩, fun μ ca c q1 q2 q3 q4 q5 => ?_⟩
  obtain ⟨m1, s1, k1, o1⟩ := lx_xyz (cf_ca q4) (q5 0 (by omega)) (q5 1 (by omega)) (q5 2 (by omega))
  refine ⟨m1, ?_, ca_cf k1, Keep.of q3 o1⟩
  have e0 : mfI μ (some a) [6] 0 = some (iz 6) := mfI_i (q1 _ _ hs) rfl rfl
  unfold f_Piece_run
  rw [q1 _ _ hs]
  change f_LabXyz_run a μ (some ca) = _
  unfold f_LabXyz_run f_LabXyz_run_19
  rw [e0, Option.bind_some, if_neg (by decide), s1, Option.bind_some]
theorem pc_scale {φ : mM} {a P Q : Nat} {it : Int} {wf bf wt bt' : Int → Int} (h : AJ φ a 7 P Q it) (hP : PW φ P wf bf) (hQ : PW φ Q wt bt') (hf : ∀ i : Nat, i < 3 → lvl (wf i)) (ht : ∀ i : Nat, i < 3 → 0 < wt i ∧ wt i ≤ 65535) : PcR φ a 7 (sclz wf wt) := by
  refine ⟨⟨0, _, h, rfl, rfl⟩, fun μ ca c q1 q2 q3 q4 q5 => ?_⟩
  obtain ⟨m1, s1, k1, o1⟩ := aj_run7 h hP hQ q2 q1 q4 q5 hf ht
  refine ⟨m1, ?_, k1, Keep.of q3 o1⟩
  unfold f_Piece_run
  rw [q1 _ _ h]
  exact s1
theorem pc_black {φ : mM} {a P Q : Nat} {it : Int} {wf bf wt bt' : Int → Int} (h : AJ φ a 8 P Q it) (hit : 0 ≤ it ∧ it < 3) (hP : PW φ P wf bf) (hQ : PW φ Q wt bt') (hf : 0 ≤ bf it ∧ bf it < 32768) (ht : 0 ≤ bt' it ∧ bt' it < 32768) : PcR φ a 8 (blkz (bf it) (bt' it)) := by
  refine ⟨⟨0, _, h, rfl, rfl⟩, fun μ ca c q1 q2 q3 q4 q5 => ?_⟩
  obtain ⟨m1, s1, k1, o1⟩ := aj_run8 h hit hP hQ q2 q1 q4 q5 hf ht
  refine ⟨m1, ?_, k1, Keep.of q3 o1⟩
  unfold f_Piece_run
  rw [q1 _ _ h]
  exact s1
/-- what a list of pieces makes of a colour -/
abbrev Pz : Type := Int × Int × Int × Int
def pf (K : Int → Int) (q : Pz) : (Int → Int) → Int → Int := pfz K q.1 q.2.1 q.2.2.1 q.2.2.2
def pv (K : Int → Int) (q : Pz) : Prop := PV K q.1 q.2.1 q.2.2.1 q.2.2.2
def runz (K : Int → Int) : List Pz → (Int → Int) → Int → Int
  | [], c => c
  | q :: l, c => runz K l (pf K q c)
theorem runz_R {K : Int → Int} : ∀ (l : List Pz) (c : Int → Int), (∀ q ∈ l, pv K q) → lv3 c → lv3 (runz K l c)
  | [], _, _, h => h
  | q :: l, c, hv, h => runz_R l _ (fun x hx => hv x (List.mem_cons_of_mem _ hx)) (pfz_R (hv q List.mem_cons_self) h)
theorem runz_app {K : Int → Int} : ∀ (l l2 : List Pz) (c : Int → Int), runz K (l ++ l2) c = runz K l2 (runz K l c)
  | [], _, _ => rfl
  | _ :: l, l2, _ => runz_app l l2 _
/-- a row of pieces stands for a list of pieces -/
def RowR (φ : mM) (K : Int → Int) (ra : Nat) (l : List Pz) : Prop := ∃ f : Nat → Option Nat, (∃ kn, kn < 5 ∧ φ ra = some (.inl (kn + 3, l.length, .inr (.inr (.inr (.inr f)))))) ∧ ∀ (k : Nat) (q : Pz), l[k]? = some q → ∃ a, f k = some a ∧ PcR φ a q.1 (pf K q)
theorem lk_runL {φ : mM} {K : Int → Int} {ra lk ca : Nat} {l : List Pz} (h : RowR φ K ra l) (hl : l.length < 1000) (hv : ∀ q ∈ l, pv K q) (hca : φ ca = none) (hlk : lk ≠ ca) (hsc : ¬ Sc φ lk) (kx : mM → Option mM) : ∀ (j fu i : Nat) (N : Int) (μ : mM) (c : Int → Int), j < fu → i + j = min N.toNat l.length → 0 ≤ N → N < 1000 → Fr φ μ → SOK φ ca μ → mfA μ (some lk) [7] 6 = some (some ra) → (∀ m : mM, m lk = μ lk → mfA m (some lk) [7] 6 = some (some ra)) → CF μ ca c → lv3 c → ∃ μ', f_Link_runFirst_2 lk kx fu μ (iz N) (some ca) (iz i) = kx μ' ∧ CF μ' ca (runz K ((l.drop i).take j) c) ∧ Keep φ ca μ μ' := by
  intro j
  obtain ⟨f, ⟨kn, hkn, h1⟩, h2⟩ := h
  induction j with
  | zero =>
    intro fu i N μ c hfu hij h0 hN hF hS hr hr2 hC hc
    obtain ⟨fu, rfl⟩ : ∃ m, fu = m + 1 := ⟨fu - 1, by omega⟩
    refine ⟨μ, ?_, by rw [List.take_zero]; exact hC, Keep.rf hS⟩
    rw [f_Link_runFirst_2]
    by_cases hn : N ≤ i
    · rw [if_pos ((iz_le (iR_s (by omega) (by omega)) (iR_s (by omega) (by omega))).mpr hn)]
    · rw [if_neg (fun q => hn ((iz_le (iR_s (by omega) (by omega)) (iR_s (by omega) (by omega))).mp q)), hr, Option.bind_some, ml_i (hF _ _ h1) (by omega), Option.bind_some, nI_iz, if_pos ((iz_le (iR_s (by omega) (by omega)) (iR_s (by omega) (by omega))).mpr (by omega))]
  | succ j ih =>
    intro fu i N μ c hfu hij h0 hN hF hS hr hr2 hC hc
    obtain ⟨fu, rfl⟩ : ∃ m, fu = m + 1 := ⟨fu - 1, by omega⟩
    have hi : i < l.length := by omega
    obtain ⟨a, ha, hpc⟩ := h2 i l[i] (List.getElem?_eq_getElem hi)
    obtain ⟨m1, s1, k1, K1⟩ := hpc.2 μ ca c hF hca hS hC hc
    have e1 : m1 lk = μ lk := K1.1 lk hlk hsc
    have hq : pv K l[i] := hv _ (List.getElem_mem hi)
    obtain ⟨m2, s2, k2, K2⟩ := ih fu (i + 1) N m1 (pf K l[i] c) (by omega) (by omega) h0 hN (K1.fr hS hF hca) (K1.sok hS) (hr2 _ e1) (fun m hm => hr2 m (hm.trans e1)) k1 (pfz_R hq hc)
    refine ⟨m2, ?_, ?_, K1.tr K2⟩
    · rw [f_Link_runFirst_2, if_neg (fun q => by have := (iz_le (iR_s (by omega) (by omega)) (iR_s (by omega) (by omega))).mp q; omega), hr, Option.bind_some, ml_i (hF _ _ h1) (by omega), Option.bind_some, nI_iz, if_neg (fun q => by have := (iz_le (iR_s (by omega) (by omega)) (iR_s (by omega) (by omega))).mp q; change (l.length : Int) ≤ i at this; omega), Option.bind_some, ← nI_iz, mgA_i (hF _ _ h1) hkn hi (by omega), Option.bind_some, ha, Option.bind_some, s1, Option.bind_some, nI_iz, zi_1, iz_add]
      exact s2
    · have e : ((l.drop i).take (j + 1)) = l[i] :: ((l.drop (i + 1)).take j) := by
        rw [List.drop_eq_getElem_cons hi, List.take_succ_cons]
      rw [e]
      exact k2
