/-! The class's convert. -/
section LAT2
variable {φ μ : mM} {X z w : Nat} {K : Int → Int} {kc pr : Int32} {np nl : Nat} {G : Nat → Lz} {C : Nat → List Pz} {F : Nat → Int} {Pa Lk : Nat → Nat} {L : Nat → Int64}
theorem cl_convert (h : CK μ φ X z K np nl G C F Pa Lk L kc pr) (hco : CO μ φ X) (hsz : ∀ b, Sc φ b → b < z) (hFp : ∀ k, k < nl → F k < np) {k : Nat} (hk : k < nl) {a b c : Int} (ha : iR a) (hb : iR b) (hc : iR c) {t : Int → Int} (et : t = tcl (gyz K (F k)) a b c) : (tok (gyz K (F k)) a b c = false → ∃ μ', f_CL_convert X μ (nI k) (iz a) (iz b) (iz c) = some (-1, μ') ∧ CO μ' φ X ∧ ∀ d, d ≠ X + 8 → ¬ Sc φ d → μ' d = μ d) ∧ (tok (gyz K (F k)) a b c = true → ∃ μ', f_CL_convert X μ (nI k) (iz a) (iz b) (iz c) = some (jz (pk (runz K (C k) t)), μ') ∧ CO μ' φ X ∧ CK μ' φ X z K np nl G C F Pa Lk (gup L k (jz (pk t))) kc (if L k = jz (pk t) then pr else pr + nI (C k).length) ∧ ∀ d, d ≠ X + 8 → d ≠ X → d ≠ Lk k → ¬ Sc φ d → μ' d = μ d) := by
  have hCK := h
  obtain ⟨⟨cc, a1⟩, ⟨f4, a2, a3⟩, ⟨f7, a4⟩, a5, a6, a7, a8, a9, a10, a11, a12, a13, a14, a15, a16, a17, a18, a19⟩ := h
  have E := xf_e a1
  obtain ⟨row, la, l1, l2, l3⟩ := a5 k hk
  have M := lk_e l1
  have h8 := a8 k hk
  obtain ⟨w, hw⟩ := hco.2.2.1
  have f6 := (a19 k hk).2
  have fnp := hFp k hk
  obtain ⟨el, n', q, hP⟩ := a14 (F k).toNat (by omega)
  have hWB := a15 (F k).toNat (by omega)
  rw [Int.toNat_of_nonneg f6.1] at hP hWB
  have hch := pr_chan hP.1 hWB a9
  have lA := cl_linkAt a1 a2 a3 a17.1 (k := (k : Int)) (iR_s (by omega) (by omega))
  rw [← nI_iz, if_pos (by omega), Int.toNat_natCast] at lA
  obtain ⟨-, cl, -⟩ := a18 k hk
  have hvC : ∀ q ∈ C k, pv K q := by
    have := chl_pv a18 (fun x hx => (a16 x hx).2.1) nl (k : Int) (by omega) (by omega)
    have ec : chl C (k : Int) = C k := by
      unfold chl
      rw [if_neg (by omega), Int.toNat_natCast]
    rw [ec] at this
    exact this
  obtain ⟨m1, w1, s1, k1, e1, o1⟩ := cl_take a1 hw M.2.2.2.2.2.2.1 hch ha hb hc
  have K1 : Keep φ (X + 8) μ m1 := Keep.of hco.1 o1
  unfold f_CL_convert f_CL_convert_25
  rw [lA, Option.bind_some, if_neg (by simp), s1, Option.bind_some]
  refine ⟨fun ht => ?_, fun ht => ?_⟩
  · refine ⟨m1, ?_, co_keep hco K1 k1, fun d hd _ => o1 d hd⟩
    rw [ht, if_pos (show iz (bI false) = 0 by decide)]
  · have tR : lv3 t := by rw [et]; exact tcl_R ht
    rw [e1 ht, ← et] at k1
    have hv3 : ∃ x y u : Int, t = v3 x y u ∧ lvl x ∧ lvl y ∧ lvl u := by
      have h0 := tR 0 (by omega)
      have h1 := tR 1 (by omega)
      have h2 := tR 2 (by omega)
      rw [et] at h0 h1 h2
      rw [et]
      exact ⟨_, _, _, rfl, h0, h1, h2⟩
    obtain ⟨tx, ty, tu, et3, r0, r1, r2⟩ := hv3
    have pR := pk_R tR
    have F1 := K1.fr hco.1 a9 hco.2.1
    have S1 := K1.sok hco.1
    have x1 := xf_e ((o1 X (by omega)).trans a1)
    have l1' := (o1 _ (by omega)).trans l1
    have M1 := lk_e l1'
    rw [ht, if_neg (show ¬ iz (bI true) = 0 by decide)]
    change ∃ μ', ((mfA m1 (some X) [10] 9).bind fun v3 => (f_CL_packed m1 v3).bind fun q4 => (mfJ m1 (some (Lk k)) [7] 7).bind _) = _ ∧ _
    rw [x1.2.2.2.2.2.2.2.2.2.2.1, Option.bind_some, cl_packed k1 tR, Option.bind_some, M1.2.2.2.2.2.2.2.2.1, Option.bind_some]
    by_cases eL : L k = jz (pk t)
    · rw [if_pos eL.symm, if_pos eL]
      have ela : la = jz (pk (runz K (C k) t)) := by
        rcases l3 with q | ⟨x, y, u, b0, b1, b2, b3, b4⟩
        · rw [q] at eL
          have := (jz_eq (jR_s (by omega) (by omega)) (jR_s (by omega) (by omega))).mp eL
          omega
        · rw [b3] at eL
          have pR2 := pk_R (v3_R b0 b1 b2)
          have e := (jz_eq (jR_s (by omega) (by omega)) (jR_s (by omega) (by omega))).mp eL
          rw [et3] at e
          obtain ⟨c0, c1, c2⟩ := pk_inj b0 b1 b2 r0 r1 r2 e
          rw [b4, et3, c0, c1, c2]
      have eg : gup L k (jz (pk t)) = L := by
        funext j
        unfold gup
        split
        · rename_i e
          rw [e, eL]
        · rfl
      rw [eg]
      refine ⟨m1, ?_, co_keep hco K1 k1, CK.run hCK hco (fun cc' q => (o1 X (by omega)).trans q) (fun j hj => ?_) (fun c c1 _ _ _ => o1 c c1) hsz, fun d hd _ _ _ => o1 d hd⟩
      · unfold f_CL_convert_98
        rw [M1.2.2.2.2.2.2.2.2.2, Option.bind_some, ela]
      · obtain ⟨row', la', d1, d2, d3⟩ := a5 j hj
        have := a8 j hj
        exact ⟨row', la', (o1 _ (by omega)).trans d1, d2, d3⟩
    · have eL' : ¬ jz (pk t) = L k := fun q => eL q.symm
      rw [if_neg eL', if_neg eL]
      have hml : ∀ m : mM, Fr φ m → ml m (some row) = some (nI (C k).length) := fun m hm => by
        obtain ⟨f, d1, -⟩ := l2
        rw [ml_i (hm _ _ d1) (by decide)]
      obtain ⟨m2, s2, k2, K2⟩ := lk_runL l2.r (by omega) hvC hco.2.1 (by omega) (hco.nsc l1) (fun μ => f_Link_runFirst_32 (Lk k) μ) (C k).length 4096 0 ((C k).length : Int) m1 _ (by omega) (by omega) (by omega) (by omega) F1 S1 M1.2.2.2.2.2.2.2.1 (fun m hm => (lk_e (hm.trans l1')).2.2.2.2.2.2.2.1) k1 tR
      rw [List.drop_zero, List.take_length] at k2
      have KK := K1.tr K2
      have F2 := KK.fr hco.1 a9 hco.2.1
      have X2 := (KK.1 X (by omega) (hco.nsc a1)).trans a1
      have L2 := (KK.1 (Lk k) (by omega) (hco.nsc l1)).trans l1
      have s13 := xf_pr X2 (pr + nI (C k).length)
      obtain ⟨m13, e13⟩ : ∃ m13, m13 = mup m2 X (.inr (10, xF X kc (nI nl) cc (pr + nI (C k).length))) := ⟨_, rfl⟩
      rw [← e13] at s13
      have L13 : m13 (Lk k) = some (.inr (7, lkF G F Pa Lk row (L k) la k)) := by
        rw [e13, mup_ne _ _ (by omega)]
        exact L2
      have s14 : mpJ m13 (some (Lk k)) [7] 7 (jz (pk t)) = some (mup m13 (Lk k) (.inr (7, lkF G F Pa Lk row (jz (pk t)) la k))) := mpV_i L13 rfl (by simp [lkF])
      have L14 : (mup m13 (Lk k) (.inr (7, lkF G F Pa Lk row (jz (pk t)) la k))) (Lk k) = some (.inr (7, lkF G F Pa Lk row (jz (pk t)) la k)) := mup_self _ _ _
      have s17 : mpJ (mup m13 (Lk k) (.inr (7, lkF G F Pa Lk row (jz (pk t)) la k))) (some (Lk k)) [7] 8 (jz (pk (runz K (C k) t))) = some (mup (mup m13 (Lk k) (.inr (7, lkF G F Pa Lk row (jz (pk t)) la k))) (Lk k) (.inr (7, lkF G F Pa Lk row (jz (pk t)) (jz (pk (runz K (C k) t))) k))) := mpV_i L14 rfl (by simp [lkF])
      rw [mup_mup] at s17
      obtain ⟨m17, e17⟩ : ∃ m17, m17 = mup m13 (Lk k) (.inr (7, lkF G F Pa Lk row (jz (pk t)) (jz (pk (runz K (C k) t))) k)) := ⟨_, rfl⟩
      rw [← e17] at s17
      have L17 : m17 (Lk k) = some (.inr (7, lkF G F Pa Lk row (jz (pk t)) (jz (pk (runz K (C k) t))) k)) := by
        rw [e17, mup_self]
      have X17 : m17 X = some (.inr (10, xF X kc (nI nl) cc (pr + nI (C k).length))) := by
        rw [e17, mup_ne _ _ (by omega), e13, mup_self]
      have X14 : (mup m13 (Lk k) (.inr (7, lkF G F Pa Lk row (jz (pk t)) la k))) X = some (.inr (10, xF X kc (nI nl) cc (pr + nI (C k).length))) := by
        rw [mup_ne _ _ (by omega), e13, mup_self]
      have oo : ∀ d, d ≠ X → d ≠ Lk k → m17 d = m2 d := fun d h1 h2 => by rw [e17, mup_ne _ _ h2, e13, mup_ne _ _ h1]
      have C14 : CF (mup m13 (Lk k) (.inr (7, lkF G F Pa Lk row (jz (pk t)) la k))) (X + 8) (runz K (C k) t) := cf_tr k2 (by rw [mup_ne _ _ (by omega), e13, mup_ne _ _ (by omega)])
      have rR := runz_R (K := K) (C k) t hvC tR
      refine ⟨m17, ?_, ⟨fun d hd => ?_, hco.2.1, ⟨_, cf_tr k2 (oo _ (by omega) (by omega))⟩, hco.2.2.2⟩, CK.run hCK hco (fun cc' q => ?_) (fun j hj => ?_) (fun d d1 d2 d3 d4 => (oo d d2 (d3 k hk)).trans (KK.1 d d1 d4)) hsz, fun d d1 d2 d3 d4 => (oo d d2 d3).trans (KK.1 d d1 d4)⟩
      · have s2' : f_Link_runFirst (Lk k) m1 (nI (C k).length) (some (X + 8)) = some m2 := by
          rw [nI_iz]
          exact s2
        unfold f_CL_convert_98
        rw [M1.2.2.2.2.2.2.2.1, Option.bind_some, hml _ F1, Option.bind_some, Option.bind_some, M1.1, Option.bind_some, s2', Option.bind_some, (xf_e X2).2.2.2.2.2.2.2.2.2.2.2, Option.bind_some, (lk_e L2).2.2.2.2.2.2.2.1, Option.bind_some, hml _ F2, Option.bind_some, s13, Option.bind_some, s14, Option.bind_some, (xf_e X14).2.2.2.2.2.2.2.2.2.2.1, Option.bind_some, cl_packed C14 rR, Option.bind_some, s17, Option.bind_some, (lk_e L17).2.2.2.2.2.2.2.2.2, Option.bind_some]
      · obtain ⟨g1, g2, g3⟩ := hco.1 d hd
        obtain ⟨w2, hw2⟩ := KK.2 d hd
        have hdx : d ≠ X := fun q => hco.nsc a1 (q ▸ hd)
        have hdl : d ≠ Lk k := fun q => hco.nsc l1 (q ▸ hd)
        exact ⟨g1, g2, w2, cf_tr hw2 (oo d hdx hdl)⟩
      · rw [a1] at q
        cases q
        exact X17
      · by_cases e : j = k
        · subst e
          refine ⟨row, jz (pk (runz K (C j) t)), ?_, l2, Or.inr ⟨tx, ty, tu, r0, r1, r2, ?_, ?_⟩⟩
          · rw [gup_s]
            exact L17
          · rw [gup_s, et3]
          · rw [et3]
        · obtain ⟨row', la', d1, d2, d3⟩ := a5 j hj
          have h8j := a8 j hj
          refine ⟨row', la', ?_, d2, by rw [gup_n _ _ e]; exact d3⟩
          rw [gup_n _ _ e, oo _ (by omega) (fun q => e (a6 j k hj hk q)), KK.1 _ (by omega) (hco.nsc d1)]
          exact d1
end LAT2
