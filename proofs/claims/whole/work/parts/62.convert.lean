/-! The class's convert and after. -/
section CVT
variable {φ μ : mM} {X z w : Nat} {K : Int → Int} {kc pr : Int32} {np nl : Nat} {G : Nat → Lz} {C : Nat → List Pz} {F : Nat → Int} {Pa Lk : Nat → Nat} {L : Nat → Int64}
/-- the colour's row and the rests of the grids -/
def CO (μ φ : mM) (X : Nat) : Prop := SOK φ (X + 8) μ ∧ φ (X + 8) = none ∧ (∃ w, CF μ (X + 8) w) ∧ ∀ b, Sc φ b → X + 8 < b
theorem CO.nsc {a ci : Nat} {fs : List Value} (h : CO μ φ X) (ha : μ a = some (.inr (ci, fs))) : ¬ Sc φ a := by
  intro q
  obtain ⟨-, -, w, f, e, -⟩ := h.1 a q
  rw [ha] at e
  cases e
/-- only the colour, rests, and the numbers of X and of one link change -/
theorem CK.run {μ' : mM} {pr' : Int32} {L' : Nat → Int64} (h : CK μ φ X z K np nl G C F Pa Lk L kc pr) (hc : CO μ φ X) (hx : ∀ cc, μ X = some (.inr (10, xF X kc (nI nl) cc pr)) → μ' X = some (.inr (10, xF X kc (nI nl) cc pr'))) (hl : LKS μ' φ K nl G C F Pa Lk L') (ho : ∀ c, c ≠ X + 8 → c ≠ X → (∀ k, k < nl → c ≠ Lk k) → ¬ Sc φ c → μ' c = μ c) (hz : ∀ b, Sc φ b → b < z) : CK μ' φ X z K np nl G C F Pa Lk L' kc pr' := by
  obtain ⟨⟨cc, a1⟩, ⟨f4, a2, a3⟩, ⟨f7, a4⟩, a5, a6, a7, a8, a9, a10, a11, a12, a13, a14, a15, a16, a17, a18, a19⟩ := h
  have big : ∀ c, c < X + 8 → c ≠ X → μ' c = μ c := fun c h1 h2 => ho c (by omega) h2 (fun k hk => by have := a8 k hk; omega) (fun q => by have := hc.2.2.2 c q; omega)
  refine ⟨⟨cc, hx cc a1⟩, ⟨f4, (big _ (by omega) (by omega)).trans a2, a3⟩, ⟨f7, (big _ (by omega) (by omega)).trans a4⟩, hl, a6, a7, a8, fun c e he => ?_, a10, a11, fun c hcz => ?_, a13, a14, a15, a16, a17, a18, a19⟩
  · rw [ho c (fun q => by rw [q, hc.2.1] at he; cases he) (fun q => by rw [q, a10.1] at he; cases he) (fun k hk q => by rw [q, (a8 k hk).2.2] at he; cases he) (fun q => by rw [(hc.1 c q).1] at he; cases he)]
    exact a9 _ _ he
  · rw [ho c (by omega) (by omega) (fun k hk => by have := a8 k hk; omega) (fun q => by have := hz c q; omega)]
    exact a12 c hcz
theorem pr_chan {P n : Nat} {p el : Int} {q : Int → Int} (h : PR0 φ P (bp K p) el n q) (hb : WB (bp K p)) (hF : Fr φ μ) : ((mrc μ (some P) 9).bind fun a => f_Profile_channels μ a) = some (iz (if gyz K p then 1 else 3)) := by
  obtain ⟨rc, pl, p0, pl1, p1, p2', p3, p4, p5, p6⟩ := pr_head h hF
  unfold f_Profile_channels gyz
  rw [rc, Option.bind_some, p0, Option.bind_some, zi_3, p1 3 (by omega) (by omega), Option.bind_some, p5]
  rcases hb.b3 with e | e
  · rw [e, decide_eq_true rfl, if_pos rfl]
  · rw [e, decide_eq_false (by decide), if_neg (by decide)]
theorem co_keep {μ' : mM} (h : CO μ φ X) (hk : Keep φ (X + 8) μ μ') {c : Int → Int} (hc : CF μ' (X + 8) c) : CO μ' φ X := ⟨hk.sok h.1, h.2.1, ⟨c, hc⟩, h.2.2.2⟩
theorem cl_after (h : CK μ φ X z K np nl G C F Pa Lk L kc pr) (hco : CO μ φ X) (hFp : ∀ k, k < nl → F k < np) {k : Nat} (hk : k < nl) {n a b c : Int} (hn : iR n) (ha : iR a) (hb : iR b) (hc : iR c) : ∃ μ', f_CL_after X μ (nI k) (iz n) (iz a) (iz b) (iz c) = some (if tok (gyz K (F k)) a b c = true ∧ 0 ≤ n ∧ n ≤ (C k).length then jz (pk (runz K ((C k).take n.toNat) (tcl (gyz K (F k)) a b c))) else -1, μ') ∧ CO μ' φ X ∧ ∀ d, d ≠ X + 8 → ¬ Sc φ d → μ' d = μ d := by
  obtain ⟨⟨cc, a1⟩, ⟨f4, a2, a3⟩, ⟨f7, a4⟩, a5, a6, a7, a8, a9, a10, a11, a12, a13, a14, a15, a16, a17, a18, a19⟩ := h
  have E := xf_e a1
  obtain ⟨row, la, l1, l2, l3⟩ := a5 k hk
  have M := lk_e l1
  have h8 := a8 k hk
  obtain ⟨w, hw⟩ := hco.2.2.1
  have f6 := (a19 k hk).2
  have fnp := hFp k hk
  obtain ⟨el, n', q, hP⟩ := a14 (F k).toNat (by omega)
  have hWB := a15 (F k).toNat (by omega)
  rw [Int.toNat_of_nonneg f6.1] at hP hWB
  have hch := pr_chan hP.1 hWB a9
  have lA := cl_linkAt a1 a2 a3 a17.1 (k := (k : Int)) (iR_s (by omega) (by omega))
  rw [← nI_iz, if_pos (by omega), Int.toNat_natCast] at lA
  obtain ⟨-, cl, -⟩ := a18 k hk
  have hvC : ∀ q ∈ C k, pv K q := by
    have := chl_pv a18 (fun x hx => (a16 x hx).2.1) nl (k : Int) (by omega) (by omega)
    have ec : chl C (k : Int) = C k := by
      unfold chl
      rw [if_neg (by omega), Int.toNat_natCast]
    rw [ec] at this
    exact this
  have hml : ml μ (some row) = some (iz ((C k).length : Int)) := by
    obtain ⟨f, d1, -⟩ := l2
    rw [ml_i (a9 _ _ d1) (by decide), nI_iz]
  unfold f_CL_after f_CL_after_40
  rw [lA, Option.bind_some, if_neg (by simp)]
  by_cases n0 : n < 0
  · refine ⟨μ, ?_, hco, fun _ _ _ => rfl⟩
    rw [zi_0, if_pos ((iz_lt hn (iR_s (by omega) (by omega))).mpr n0), if_neg (by omega)]
  · rw [zi_0, if_neg (fun q => n0 ((iz_lt hn (iR_s (by omega) (by omega))).mp q)), M.2.2.2.2.2.2.2.1, Option.bind_some, hml, Option.bind_some]
    by_cases n1 : n ≤ (C k).length
    · rw [if_neg (fun q => by have := (iz_lt (iR_s (by omega) (by omega)) hn).mp q; omega)]
      obtain ⟨m1, w1, s1, k1, e1, o1⟩ := cl_take a1 hw M.2.2.2.2.2.2.1 hch ha hb hc
      have K1 : Keep φ (X + 8) μ m1 := Keep.of hco.1 o1
      rw [s1, Option.bind_some]
      cases ht : tok (gyz K (F k)) a b c with
      | false =>
        refine ⟨m1, ?_, co_keep hco K1 k1, fun d hd _ => o1 d hd⟩
        rw [if_pos (show iz (bI false) = iz 0 by decide), if_neg (fun q => by cases q.1)]
      | true =>
        rw [e1 ht] at k1
        have F1 := K1.fr hco.1 a9 hco.2.1
        have S1 := K1.sok hco.1
        have x1 := xf_e ((o1 X (by omega)).trans a1)
        have l1' := (o1 _ (by omega)).trans l1
        obtain ⟨m2, s2, k2, K2⟩ := lk_runL l2.r (by omega) hvC hco.2.1 (by omega) (hco.nsc l1) (fun μ => f_Link_runFirst_32 (Lk k) μ) n.toNat 4096 0 n m1 _ (by omega) (by omega) (by omega) (by omega) F1 S1 (lk_e l1').2.2.2.2.2.2.2.1 (fun m hm => (lk_e (hm.trans l1')).2.2.2.2.2.2.2.1) k1 (tcl_R ht)
        rw [List.drop_zero] at k2
        have KK := K1.tr K2
        have x2 := xf_e ((KK.1 X (by omega) (hco.nsc a1)).trans a1)
        refine ⟨m2, ?_, co_keep hco KK k2, fun d h1 h2 => KK.1 d h1 h2⟩
        rw [if_neg (show ¬ iz (bI true) = iz 0 by decide)]
        change ((mfA m1 (some X) [10] 9).bind fun v5 => ((mrc m1 (some (Lk k)) 7).bind fun a => f_Link_runFirst a m1 (iz n) v5).bind _) = _
        have s2' : f_Link_runFirst (Lk k) m1 (iz n) (some (X + 8)) = some m2 := s2
        rw [x1.2.2.2.2.2.2.2.2.2.2.1, Option.bind_some, (lk_e l1').1, Option.bind_some, s2', Option.bind_some, x2.2.2.2.2.2.2.2.2.2.2.1, Option.bind_some, cl_packed k2 (runz_R _ _ (fun q hq => hvC q (List.mem_of_mem_take hq)) (tcl_R ht)), Option.bind_some, if_pos ⟨rfl, by omega, n1⟩]
    · refine ⟨μ, ?_, hco, fun _ _ _ => rfl⟩
      rw [if_pos ((iz_lt (iR_s (by omega) (by omega)) hn).mpr (by omega)), if_neg (by omega)]
end CVT
