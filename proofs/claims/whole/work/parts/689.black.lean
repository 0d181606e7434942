/-! The class measures the black levels of a profile. -/
def Mn {α : Type} (x y : Option α) : Prop := ∀ v, x = some v → y = some v
theorem mq_rf {α : Type} (x : Option α) : Mn x x := fun _ h => h
theorem mq_bind {α β : Type} {x y : Option α} {f g : α → Option β} (h : Mn x y) (hf : ∀ a, Mn (f a) (g a)) : Mn (x.bind f) (y.bind g) := by
  intro v hv
  cases x with
  | none => cases hv
  | some a =>
    rw [h a rfl, Option.bind_some]
    rw [Option.bind_some] at hv
    exact hf a v hv
theorem mq_ite {α : Type} {c : Prop} [Decidable c] {x y x' y' : Option α} (h : Mn x x') (h2 : Mn y y') : Mn (if c then x else y) (if c then x' else y') := by
  by_cases q : c
  · rw [if_pos q, if_pos q]; exact h
  · rw [if_neg q, if_neg q]; exact h2
theorem mq_fA {φ μ : mM} (hf : Fr φ μ) (r : Option Nat) (cs : List Nat) (k : Nat) : Mn (mfA φ r cs k) (mfA μ r cs k) := by
  unfold mfA
  refine mq_bind ?_ (fun a => mq_rf _)
  intro v hv
  cases r with
  | none => cases hv
  | some a =>
    unfold mfV at hv ⊢
    cases e : φ a with
    | none => simp only [e] at hv; cases hv
    | some c =>
      simp only [e] at hv
      simp only [hf a c e]
      exact hv
theorem mq_rc {φ μ : mM} (hf : Fr φ μ) (r : Option Nat) (c : Nat) : Mn (mrc φ r c) (mrc μ r c) := by
  intro v hv
  cases r with
  | none => cases hv
  | some a =>
    unfold mrc at hv ⊢
    cases e : φ a with
    | none => simp only [e] at hv; cases hv
    | some d =>
      simp only [e] at hv
      simp only [hf a d e]
      exact hv
theorem mq_gA {φ μ : mM} (hf : Fr φ μ) (r : Option Nat) (i : Int32) : Mn (mgA φ r i) (mgA μ r i) := by
  intro v hv
  cases r with
  | none => cases hv
  | some a =>
    unfold mgA at hv ⊢
    cases e : φ a with
    | none => simp only [e] at hv; cases hv
    | some d =>
      simp only [e] at hv
      simp only [hf a d e]
      exact hv
theorem mq_forth {φ μ : mM} (hf : Fr φ μ) (a : Nat) (x1 x2 : Int32) : Mn (f_Profile_forthPiece φ a x1 x2) (f_Profile_forthPiece μ a x1 x2) := by
  have g32 : ∀ a x1 s0, Mn (f_Profile_gridFor_32 φ a x1 s0) (f_Profile_gridFor_32 μ a x1 s0) := fun a x1 s0 => by
    unfold f_Profile_gridFor_32
    exact mq_ite (mq_bind (mq_fA hf _ _ _) (fun v => mq_bind (mq_gA hf _ _) (fun v => mq_rf _))) (mq_rf _)
  have g10 : ∀ a x1 s0, Mn (f_Profile_gridFor_10 φ a x1 s0) (f_Profile_gridFor_10 μ a x1 s0) := fun a x1 s0 => by
    unfold f_Profile_gridFor_10 f_Profile_gridFor_31
    exact mq_ite (g32 _ _ _) (mq_ite (g32 _ _ _) (mq_bind (mq_fA hf _ _ _) (fun v => mq_bind (mq_gA hf _ _) (fun v => g32 _ _ _))))
  have g : ∀ a x1 x2, Mn (f_Profile_gridFor φ a x1 x2) (f_Profile_gridFor μ a x1 x2) := fun a x1 x2 => by
    unfold f_Profile_gridFor
    exact mq_ite (g10 _ _ _) (g10 _ _ _)
  unfold f_Profile_forthPiece
  refine mq_bind (mq_bind (mq_rc hf _ _) (fun v => g _ _ _)) (fun v => mq_ite (mq_ite (mq_bind (mq_fA hf _ _ _) (fun v => mq_rf _)) (mq_bind (mq_fA hf _ _ _) (fun v => mq_rf _))) (mq_rf _))
section BLK
variable {φ : mM} {P : Nat} {K : Int → Int} {p : Int} {el : Int} {n : Nat} {q : Int → Int}
theorem kp_fr {μ μ' : mM} {ca : Nat} (hF : Fr φ μ) (hc : φ ca = none) (hS : SOK φ ca μ) (hK : Keep φ ca μ μ') : Fr φ μ' ∧ SOK φ ca μ' := by
  refine ⟨fun a e he => ?_, fun b hb => ⟨(hS b hb).1, (hS b hb).2.1, hK.2 b hb⟩⟩
  rw [hK.1 a (fun w => by rw [w, hc] at he; cases he) (fun w => by rw [(hS a w).1] at he; cases he)]
  exact hF _ _ he
theorem bk_piece {μ : mM} {ca : Nat} {x : Option Nat} {l : List Pz} {c : Int → Int} (hF : Fr φ μ) (hc : φ ca = none) (hS : SOK φ ca μ) (hC : CF μ ca c) (hl : lv3 c) (hx : PO φ K x l) (kx : mM → Option (mM × Nat × Nat)) : ∃ μ', (if x = none then kx μ else (x.bind fun a => f_Piece_run a μ (some ca)).bind fun q4 => kx q4) = kx μ' ∧ CF μ' ca (runz K l c) ∧ Keep φ ca μ μ' := by
  rcases hx with ⟨rfl, rfl⟩ | ⟨a, q, u, rfl, h1, h2, h3, h4⟩
  · exact ⟨μ, if_pos rfl, hC, Keep.rf hS⟩
  · obtain ⟨μ', s1, s2, s3⟩ := h1.2 μ ca c hF hc hS hC hl
    refine ⟨μ', ?_, ?_, s3⟩
    · rw [if_neg (by intro w; cases w), Option.bind_some, s1, Option.bind_some]
    · rw [h3]
      cases u
      · exact s2
      · exact cf_ext s2 (h4 rfl c hl)
theorem fill_0 {μ : mM} {a : Nat} {c : Int → Int} (h : CF μ a c) : ∃ μ', f_Arrays_fill μ (some a) (0 : Int32) = some μ' ∧ CF μ' a (fun _ => 0) ∧ ∀ d, d ≠ a → μ' d = μ d := by
  obtain ⟨m1, s1, c1, o1⟩ := cf_s h (i := 0) (by omega) (by omega) 0
  obtain ⟨m2, s2, c2, o2⟩ := cf_s c1 (i := 1) (by omega) (by omega) 0
  obtain ⟨m3, s3, c3, o3⟩ := cf_s c2 (i := 2) (by omega) (by omega) 0
  refine ⟨m3, ?_, cf_ext c3 (fun i hi => ?_), fun d hd => by rw [o3 d hd, o2 d hd, o1 d hd]⟩
  · obtain ⟨f, f1, f2⟩ := h
    have st : ∀ (fu : Nat) (μ μ' : mM) (i : Int), 0 ≤ i → i < 3 → msI μ (some a) (iz i) (iz 0) = some μ' → f_Arrays_fill_5 (fun μ => f_Arrays_fill_20 μ) (fu + 1) μ (some a) (iz 0) (iz i) (iz 3) = f_Arrays_fill_5 (fun μ => f_Arrays_fill_20 μ) fu μ' (some a) (iz 0) (iz (i + 1)) (iz 3) := by
      intro fu μ μ' i i0 i1 hs
      rw [f_Arrays_fill_5, qle (iR_s (by omega) (by omega)) (iR_s (by omega) (by omega)), if_neg (by omega), hs, Option.bind_some, zi_1, iz_add]
    unfold f_Arrays_fill
    rw [ml_i f1 (by decide), Option.bind_some]
    change f_Arrays_fill_5 (fun μ => f_Arrays_fill_20 μ) 4096 μ (some a) (iz 0) (iz 0) (iz 3) = _
    refine (st 4095 μ m1 0 (by omega) (by omega) s1).trans ((st 4094 m1 m2 1 (by omega) (by omega) s2).trans ((st 4093 m2 m3 2 (by omega) (by omega) s3).trans ?_))
    show f_Arrays_fill_5 _ (4092 + 1) m3 (some a) (iz 0) (iz (2 + 1)) (iz 3) = _
    rw [f_Arrays_fill_5, qle (iR_s (by omega) (by omega)) (iR_s (by omega) (by omega)), if_pos (by omega)]
    rfl
  · unfold zu
    repeat' split
    all_goals first | rfl | (exfalso; omega)
theorem bk_step (h : PR0 φ P (bp K p) el n q) (hb : WB (bp K p)) (hp : 0 ≤ p ∧ p < 6) {ca ba : Nat} (hc : φ ca = none) (hba : φ ba = none) (hcb : ba ≠ ca) (hbs : ¬ Sc φ ba) (hPf : ∀ μ, Fr φ μ → mfA μ (some P) [9] 10 = some (some ba)) (kx : mM → Nat → Nat → Option (mM × Nat × Nat)) {zz ww fu : Nat} {it : Nat} (hi : it < 3) {μ : mM} (hF : Fr φ μ) (hS : SOK φ ca μ) (hC : ∃ w, CF μ ca w) {g : Nat → Int32} (hg : μ ba = some (.inl (0, 3, .inl g))) (hgi : ∀ i : Nat, i < it → g i = iz (blz K p i)) : ∃ μ' g', f_Profile_measureBlack_6 P kx (fu + 1) μ zz ww (some ca) (iz it) = f_Profile_measureBlack_6 P kx fu μ' zz ww (some ca) (iz ((it + 1 : Nat) : Int)) ∧ Fr φ μ' ∧ SOK φ ca μ' ∧ (∃ w, CF μ' ca w) ∧ μ' ba = some (.inl (0, 3, .inl g')) ∧ (∀ i : Nat, i < it + 1 → g' i = iz (blz K p i)) ∧ ∀ d, d ≠ ca → d ≠ ba → ¬ Sc φ d → μ' d = μ d := by
  obtain ⟨w0, hC0⟩ := hC
  obtain ⟨m1, s1, c1, o1⟩ := fill_0 hC0
  have K1 : Keep φ ca μ m1 := ⟨fun b b1 _ => o1 b b1, fun b hb => by
    obtain ⟨w, x⟩ := (hS b hb).2.2
    exact ⟨w, cf_tr x (o1 b (hS b hb).2.1)⟩⟩
  obtain ⟨F1, S1⟩ := kp_fr hF hc hS K1
  have z3 : lv3 (fun _ => 0) := fun i _ => ⟨Int.le_refl 0, show (0 : Int) ≤ 65535 by decide⟩
  have iti : 0 ≤ (it : Int) ∧ (it : Int) ≤ 3 := by omega
  have hv := fth_pv (K := K) hp hb iti
  obtain ⟨x0, x1, l0, l1, e0φ, e1φ, p0, p1, el⟩ := pr_forth h hb Fr.rf iti
  have e0 : ((mrc m1 (some P) 9).bind fun a => f_Profile_forthPiece m1 a (iz it) (iz 0)) = some x0 := mq_bind (mq_rc F1 _ _) (fun a => mq_forth F1 a _ _) _ e0φ
  obtain ⟨m2, s2, c2, K2⟩ := bk_piece F1 hc S1 c1 z3 p0 (fun μ => f_Profile_measureBlack_18 P (fun μ z w y1 y2 => f_Profile_measureBlack_48 P (f_Profile_measureBlack_6 P kx fu) kx μ z w y1 y2) 4095 μ zz ww (some ca) (iz it) (iz 1))
  obtain ⟨F2, S2⟩ := kp_fr F1 hc S1 K2
  have v2 : lv3 (runz K l0 (fun _ => 0)) := runz_R l0 _ (fun q hq => hv q (by rw [el]; exact List.mem_append_left _ hq)) z3
  have e1' : ((mrc m2 (some P) 9).bind fun a => f_Profile_forthPiece m2 a (iz it) (iz 1)) = some x1 := mq_bind (mq_rc F2 _ _) (fun a => mq_forth F2 a _ _) _ e1φ
  obtain ⟨m3, s3, c3, K3⟩ := bk_piece F2 hc S2 c2 v2 p1 (fun μ => f_Profile_measureBlack_18 P (fun μ z w y1 y2 => f_Profile_measureBlack_48 P (f_Profile_measureBlack_6 P kx fu) kx μ z w y1 y2) 4094 μ zz ww (some ca) (iz it) (iz 2))
  obtain ⟨F3, S3⟩ := kp_fr F2 hc S2 K3
  rw [← runz_app, ← el] at c3
  have v3' : lv3 (runz K (fth (bp K p) p it) (fun _ => 0)) := runz_R _ _ hv z3
  -- the turn to XYZ
  have turn : ∃ m4, f_Profile_measureBlack_48 P (f_Profile_measureBlack_6 P kx fu) kx m3 zz ww (some ca) (iz it) = f_Profile_measureBlack_60 P (f_Profile_measureBlack_6 P kx fu) kx m4 zz ww (some ca) (iz it) ∧ CF m4 ca (runz K (fth (bp K p) p it ++ blp (bp K p) p) (fun _ => 0)) ∧ ∀ d, d ≠ ca → m4 d = m3 d := by
    unfold f_Profile_measureBlack_48
    rw [pr_space h F3 hb, Option.bind_some, runz_app]
    unfold labz blp
    by_cases c : bp K p 4 = 1
    · obtain ⟨m4, s4, c4, o4⟩ := lx_xyz (cf_ca c3) (v3' 0 (by omega)) (v3' 1 (by omega)) (v3' 2 (by omega))
      refine ⟨m4, ?_, ?_, o4⟩
      · rw [decide_eq_true c, if_pos (show iz (bI true) = 1 from rfl), s4, Option.bind_some]
      · rw [if_pos c]
        exact ca_cf c4
    · refine ⟨m3, ?_, ?_, fun _ _ => rfl⟩
      · rw [decide_eq_false c, if_neg (by decide)]
      · rw [if_neg c]
        exact c3
  obtain ⟨m4, s4, c4, o4⟩ := turn
  have K4 : Keep φ ca m3 m4 := ⟨fun b b1 _ => o4 b b1, fun b hb => by
    obtain ⟨w, x⟩ := (S3 b hb).2.2
    exact ⟨w, cf_tr x (o4 b (S3 b hb).2.1)⟩⟩
  obtain ⟨F4, S4⟩ := kp_fr F3 hc S3 K4
  have K14 := ((K1.tr K2).tr K3).tr K4
  have g4 : m4 ba = some (.inl (0, 3, .inl g)) := (K14.1 ba hcb hbs).trans hg
  have eb : runz K (fth (bp K p) p it ++ blp (bp K p) p) (fun _ => 0) 1 = blz K p it := rfl
  have s5 : msI m4 (some ba) (nI it) (iz (blz K p it)) = some (mup m4 ba (.inl (0, 3, .inl (upd g it (iz (blz K p it)))))) := msI_i g4 hi (by decide)
  have o5 : ∀ d, d ≠ ba → mup m4 ba (.inl (0, 3, .inl (upd g it (iz (blz K p it))))) d = m4 d := fun d hd => mup_ne _ _ hd
  refine ⟨_, _, ?_, Fr.put F4 hba o5, fun b hb => ⟨(S4 b hb).1, (S4 b hb).2.1, ?_⟩, ⟨_, cf_tr c4 (o5 _ (Ne.symm hcb))⟩, mup_self _ _ _, fun i hi' => ?_, fun d d1 d2 d3 => by rw [o5 d d2]; exact K14.1 d d1 d3⟩
  · rw [f_Profile_measureBlack_6, zi_3, qle (iR_s (by omega) (by omega)) (iR_s (by omega) (by omega)), if_neg (by omega), s1, Option.bind_some, show (4096 : Nat) = 4095 + 1 by rfl, f_Profile_measureBlack_18, zi_2, zi_0, qle (iR_s (by omega) (by omega)) (iR_s (by omega) (by omega)), if_neg (by omega), e0, Option.bind_some]
    unfold f_Profile_measureBlack_42
    rw [zi_1, iz_add]
    refine s2.trans ?_
    show f_Profile_measureBlack_18 P _ (4094 + 1) m2 zz ww (some ca) (iz it) (iz 1) = _
    rw [f_Profile_measureBlack_18, zi_2, qle (iR_s (by omega) (by omega)) (iR_s (by omega) (by omega)), if_neg (by omega), e1', Option.bind_some]
    unfold f_Profile_measureBlack_42
    rw [zi_1, iz_add]
    refine s3.trans ?_
    show f_Profile_measureBlack_18 P _ (4093 + 1) m3 zz ww (some ca) (iz it) (iz 2) = _
    rw [f_Profile_measureBlack_18, zi_2, qle (iR_s (by omega) (by omega)) (iR_s (by omega) (by omega)), if_pos (by omega)]
    refine s4.trans ?_
    unfold f_Profile_measureBlack_60
    rw [hPf m4 F4, Option.bind_some, zi_1, cf_g c4 (by omega) (by omega), Option.bind_some, eb, ← nI_iz it, s5, Option.bind_some, ← zi_1, nI_s, nI_iz]
  · obtain ⟨w, x⟩ := (S4 b hb).2.2
    exact ⟨w, cf_tr x (o5 b (fun w => hbs (w ▸ hb)))⟩
  · unfold upd
    by_cases c : i = it
    · rw [if_pos c, c]
    · rw [if_neg c]
      exact hgi i (by omega)
theorem bk_new (h : PR0 φ P (bp K p) el n q) (hb : WB (bp K p)) (hp : 0 ≤ p ∧ p < 6) {ba z w : Nat} (hz : ∀ c, z ≤ c → φ c = none) (hba : φ ba = none) (hbz : ba < z) (hbs : ¬ Sc φ ba) (hsz : ∀ b, Sc φ b → b < z) (hPf : ∀ μ, Fr φ μ → mfA μ (some P) [9] 10 = some (some ba)) {μ : mM} (hF : Fr φ μ) (hS : ∀ b, Sc φ b → φ b = none ∧ ∃ w, CF μ b w) {g : Nat → Int32} (hg : μ ba = some (.inl (0, 3, .inl g))) : ∃ μ' g', ((mrc μ (some P) 9).bind fun a => f_Profile_measureBlack a μ z w) = some (μ', z + 1, w + 3) ∧ Fr φ μ' ∧ (∀ b, Sc φ b → ∃ w, CF μ' b w) ∧ μ' ba = some (.inl (0, 3, .inl g')) ∧ (∀ i : Nat, i < 3 → g' i = iz (blz K p i)) ∧ ∀ d, d ≠ z → d ≠ ba → ¬ Sc φ d → μ' d = μ d := by
  obtain ⟨m0, e0⟩ : ∃ m0, m0 = mup μ z (.inl (0, 3, .inl (fun _ => (0 : Int32)))) := ⟨_, rfl⟩
  have o0 : ∀ c, c ≠ z → m0 c = μ c := fun c hc => by rw [e0]; exact mup_ne _ _ hc
  have F0 : Fr φ m0 := Fr.put hF (hz z (Nat.le_refl _)) o0
  have S0 : SOK φ z m0 := fun b hb => ⟨(hS b hb).1, by have := hsz b hb; omega, by
    obtain ⟨w, x⟩ := (hS b hb).2
    exact ⟨w, cf_tr x (o0 b (by have := hsz b hb; omega))⟩⟩
  have C0 : ∃ w, CF m0 z w := ⟨fun _ => 0, _, by rw [e0]; exact mup_self _ _ _, fun _ _ => rfl⟩
  obtain ⟨m1, g1, s1, F1, S1, C1, b1, y1, o1⟩ := bk_step h hb hp (ca := z) (ba := ba) (hz z (Nat.le_refl _)) hba (by omega) hbs hPf (fun μ z w => f_Profile_measureBlack_75 P μ z w) (zz := z + 1) (ww := w + 3) (fu := 4095) (it := 0) (by omega) F0 S0 C0 ((o0 _ (by omega)).trans hg) (fun i hi => by omega)
  obtain ⟨m2, g2, s2, F2, S2, C2, b2, y2, o2⟩ := bk_step h hb hp (ca := z) (ba := ba) (hz z (Nat.le_refl _)) hba (by omega) hbs hPf (fun μ z w => f_Profile_measureBlack_75 P μ z w) (zz := z + 1) (ww := w + 3) (fu := 4094) (it := 1) (by omega) F1 S1 C1 b1 y1
  obtain ⟨m3, g3, s3, F3, S3, C3, b3, y3, o3⟩ := bk_step h hb hp (ca := z) (ba := ba) (hz z (Nat.le_refl _)) hba (by omega) hbs hPf (fun μ z w => f_Profile_measureBlack_75 P μ z w) (zz := z + 1) (ww := w + 3) (fu := 4093) (it := 2) (by omega) F2 S2 C2 b2 y2
  refine ⟨m3, g3, ?_, F3, fun b hb => (S3 b hb).2.2, b3, y3, fun d d1 d2 d3 => by rw [o3 d d1 d2 d3, o2 d d1 d2 d3, o1 d d1 d2 d3, o0 d d1]⟩
  rw [(pr_head h hF).1, Option.bind_some]
  unfold f_Profile_measureBlack
  refine mmV_i (Nat.le_refl _) (Nat.le_refl _) ?_ (by show z ≤ z + 1; omega) (by show w ≤ w + 3; omega)
  change ((mna μ z 0 (nI 3)).bind _) = _
  rw [mna_0 (by decide), Option.bind_some, show ((3 : Int32)).toNatClampNeg = 3 by decide, ← e0]
  refine mmV_i (by omega) (by omega) ?_ (Nat.le_refl _) (Nat.le_refl _)
  refine (show _ = _ from s1).trans ((show _ = _ from s2).trans ((show _ = _ from s3).trans ?_))
  show f_Profile_measureBlack_6 P _ (4092 + 1) m3 (z + 1) (w + 3) (some z) (iz ((2 + 1 : Nat) : Int)) = _
  rw [f_Profile_measureBlack_6, zi_3, qle (iR_s (by omega) (by omega)) (iR_s (by omega) (by omega)), if_pos (by omega)]
  rfl
end BLK
