/-! The class joins. -/
def gup {α : Type} (f : Nat → α) (n : Nat) (x : α) : Nat → α := fun k => if k = n then x else f k
theorem gup_s {α : Type} (f : Nat → α) (n : Nat) (x : α) : gup f n x n = x := if_pos rfl
theorem gup_n {α : Type} (f : Nat → α) {n k : Nat} (x : α) (h : k ≠ n) : gup f n x k = f k := if_neg h
/-- the class between calls, as far as links go -/
def CK (μ φ : mM) (X z : Nat) (K : Int → Int) (np nl : Nat) (G : Nat → Lz) (C : Nat → List Pz) (F : Nat → Int) (Pa Lk : Nat → Nat) (L : Nat → Int64) (kc pr : Int32) : Prop := (∃ cc, μ X = some (.inr (10, xF X kc (nI nl) cc pr))) ∧ (∃ f4, μ (X + 4) = some (.inl (4, 16, .inr (.inr (.inr (.inr f4))))) ∧ ∀ k, k < nl → f4 k = some (Lk k)) ∧ (∃ f7, μ (X + 7) = some (.inl (5, 32, .inr (.inr (.inr (.inr f7)))))) ∧ LKS μ φ K nl G C F Pa Lk L ∧ INJ nl Lk ∧ INJ np Pa ∧ (∀ k, k < nl → X + 8 < Lk k ∧ Lk k < z ∧ φ (Lk k) = none) ∧ Fr φ μ ∧ (φ X = none ∧ φ (X + 4) = none ∧ φ (X + 7) = none) ∧ (LX φ (X + 5) 5 ∧ LX φ (X + 6) 6) ∧ (∀ c, z ≤ c → μ c = none) ∧ X + 8 < z ∧ (∀ p, p < np → ∃ el n q, PR φ (Pa p) K p el n q) ∧ (∀ p : Nat, p < np → WB (bp K p)) ∧ (∀ k, k < nl → -1 ≤ (G k).1 ∧ (G k).1 < k ∧ (0 ≤ (G k).2.1 ∧ (G k).2.1 < np) ∧ (0 ≤ (G k).2.2.1 ∧ (G k).2.2.1 < np) ∧ iR (G k).2.2.2.1) ∧ (nl ≤ 16 ∧ np ≤ 6) ∧ CH K nl G C ∧ FS nl G F
section JND
variable {φ μ : mM} {X z w : Nat} {K : Int → Int} {kc pr : Int32} {np nl : Nat} {G : Nat → Lz} {C : Nat → List Pz} {F : Nat → Int} {Pa Lk : Nat → Nat} {L : Nat → Int64}
/-- where nothing is made: only the chain's count, the chain and cells from z on have changed -/
theorem CK.keep {μ' : mM} {z' : Nat} (h : CK μ φ X z K np nl G C F Pa Lk L kc pr) {cc : Int32} {f7 : Nat → Option Nat} (hx : μ' X = some (.inr (10, xF X kc (nI nl) cc pr))) (h7 : μ' (X + 7) = some (.inl (5, 32, .inr (.inr (.inr (.inr f7)))))) (ho : ∀ c, c < z → c ≠ X → c ≠ X + 7 → μ' c = μ c) (hz' : z ≤ z') (hf : ∀ c, z' ≤ c → μ' c = none) : CK μ' φ X z' K np nl G C F Pa Lk L kc pr := by
  obtain ⟨-, ⟨f4, a2, a3⟩, -, a5, a6, a7, a8, a9, a10, a11, a12, a13, a14, a15, a16, a17, a18, a19⟩ := h
  refine ⟨⟨cc, hx⟩, ⟨f4, (ho _ (by omega) (by omega) (by omega)).trans a2, a3⟩, ⟨f7, h7⟩, fun k hk => ?_, a6, a7, fun k hk => ?_, fun c e he => ?_, a10, a11, hf, by omega, a14, a15, a16, a17, a18, a19⟩
  · obtain ⟨row, la, l1, l2⟩ := a5 k hk
    have := a8 k hk
    exact ⟨row, la, (ho _ (by omega) (by omega) (by omega)).trans l1, l2⟩
  · have := a8 k hk
    exact ⟨this.1, by omega, this.2.2⟩
  · have hcz : c < z := by
      apply Nat.lt_of_not_le
      intro q
      have := a9 _ _ he
      rw [a12 c q] at this
      cases this
    rw [ho c hcz (fun q => by rw [q, a10.1] at he; cases he) (fun q => by rw [q, a10.2.2] at he; cases he)]
    exact a9 _ _ he
theorem cl_join26 (h : CK μ φ X z K np nl G C F Pa Lk L kc pr) {g : Lz} (g1 : -1 ≤ g.1 ∧ g.1 < nl) (g2 : 0 ≤ g.2.1 ∧ g.2.1 < np) (g3 : 0 ≤ g.2.2.1 ∧ g.2.2.1 < np) (g4 : iR g.2.2.2.1) (g5 : g.2.2.2.1 = 3 → g.2.2.2.2 = false) : ∃ μ' z' w', f_CL_join_26 X μ z w (bsz Lk g.1) (some (Pa g.2.1.toNat)) (some (Pa g.2.2.1.toNat)) (iz g.2.2.2.1) (iz (bI g.2.2.2.2)) = some (iz (mkA K nl G C g), μ', z', w') ∧ z ≤ z' ∧ z' ≤ z + 3 ∧ w ≤ w' ∧ w' ≤ w + 38 ∧ (∀ c, c < z → c ≠ X → c ≠ X + 4 → c ≠ X + 7 → μ' c = μ c) ∧ (¬ mkB K nl G C g → CK μ' φ X z' K np nl G C F Pa Lk L kc pr) ∧ (mkB K nl G C g → ∃ φ' y, Fr φ φ' ∧ (∀ c, c < z → φ' c = φ c) ∧ (∀ c, Sc φ' c → Sc φ c) ∧ CK μ' φ' X z' K np (nl + 1) (gup G nl g) (gup C nl (chl C g.1 ++ psg K g)) (gup F nl (if g.1 < 0 then g.2.1 else F g.1.toNat)) Pa (gup Lk nl y) (gup L nl (jz (-1))) kc pr) := by
  have hCK := h
  obtain ⟨⟨cc, a1⟩, ⟨f4, a2, a3⟩, ⟨f7, a4⟩, a5, a6, a7, a8, a9, a10, a11, a12, a13, a14, a15, a16, a17, a18, a19⟩ := h
  obtain ⟨elP, nP, qP, hP⟩ := a14 g.2.1.toNat (by omega)
  obtain ⟨elQ, nQ, qQ, hQ⟩ := a14 g.2.2.1.toNat (by omega)
  have wA := a15 g.2.1.toNat (by omega)
  have wB := a15 g.2.2.1.toNat (by omega)
  rw [Int.toNat_of_nonneg g2.1] at hP wA
  rw [Int.toNat_of_nonneg g3.1] at hQ wB
  have r1 := cl_refusal (it := g.2.2.2.1) (bk := g.2.2.2.2) ⟨g2.1, by omega⟩ ⟨g3.1, by omega⟩ hP hQ a9 wA wB g4 g5
  have r2 := cl_find (φ := φ) (np := np) (C := C) (F := F) (L := L) (K := K) a1 a17.1 a2 a3 a5 a6 a7 a16 g1 g2 g3 g4
  have rl := rfz_le K g.2.1 g.2.2.1 g.2.2.2.1 g.2.2.2.2
  unfold f_CL_join_26
  rw [r1, Option.bind_some]
  by_cases e0 : rfz K g.2.1 g.2.2.1 g.2.2.2.1 g.2.2.2.2 = 0
  · rw [if_pos (by rw [e0]; rfl), r2, Option.bind_some]
    have eA : mkA K nl G C g = match fndz G g nl 0 with | some k => (k : Int) | none => if 24 < (chl C g.1 ++ psg K g).length then -9 else if nl = 16 then -8 else nl := if_neg (by omega)
    cases hfd : fndz G g nl 0 with
    | some k =>
      have fk : k < nl := by
        have : ∀ (n i : Nat), fndz G g n i = some k → k < i + n := by
          intro n
          induction n with
          | zero => intro i q; cases q
          | succ n ih =>
            intro i q
            unfold fndz at q
            split at q
            · cases q
              omega
            · have := ih (i + 1) q
              omega
        have := this nl 0 hfd
        omega
      refine ⟨μ, z, w, ?_, by omega, by omega, by omega, by omega, fun _ _ _ _ _ => rfl, fun _ => hCK, fun q => by have q2 := q.2.1; rw [hfd] at q2; cases q2⟩
      show (if nI k = (-1 : Int32) then _ else some (nI k, μ, z, w)) = _
      rw [if_neg (fun q => by rw [nI_iz, zi_m1] at q; have := (iz_eq (iR_s (by omega) (by omega)) (iR_s (by omega) (by omega))).mp q; omega), eA, hfd, nI_iz]
    | none =>
      show ∃ μ' z' w', (if (-1 : Int32) = (-1 : Int32) then _ else _) = _ ∧ _
      rw [if_pos rfl]
      have hPOK : POK K g.2.1 g.2.2.1 g.2.2.2.1 g.2.2.2.2 := rfz_ok ⟨g2.1, by omega⟩ wA ⟨g3.1, by omega⟩ wB e0
      have E := xf_e a1
      have s3 := xf_cc a1 0
      have k3 : CHS (mup μ X (.inr (10, xF X kc (nI nl) 0 pr))) X kc (nI nl) pr [] := ⟨mup_self _ _ _, f7, (mup_ne _ _ (by omega)).trans a4, fun k a hk => by simp at hk⟩
      have F3 : Fr φ (mup μ X (.inr (10, xF X kc (nI nl) 0 pr))) := a9.put a10.1 (fun c hc => mup_ne _ _ hc)
      have cl := chl_len a18 g1.2
      obtain ⟨m4, ads4, s4', k4, c4, o4⟩ : ∃ m4 ads4, ((mrc (mup μ X (.inr (10, xF X kc (nI nl) 0 pr))) (some X) 10).bind fun a => f_CL_chainLink a (mup μ X (.inr (10, xF X kc (nI nl) 0 pr))) (bsz Lk g.1)) = some m4 ∧ CHS m4 X kc (nI nl) pr ads4 ∧ ChR φ K ads4 (chl C g.1) ∧ ∀ c, c ≠ X → c ≠ X + 7 → m4 c = μ c := by
        by_cases eg : g.1 < 0
        · refine ⟨_, [], ?_, k3, ?_, fun c c1 c2 => mup_ne _ _ c1⟩
          · rw [(xf_e k3.1).1, Option.bind_some]
            unfold bsz f_CL_chainLink
            rw [if_pos eg, if_pos rfl]
          · unfold chl
            rw [if_pos eg]
            exact ⟨rfl, fun k q hq => by simp at hq⟩
        · obtain ⟨row, la, l1, l2, -⟩ := a5 g.1.toNat (by omega)
          have h8 := a8 g.1.toNat (by omega)
          have ec : chl C g.1 = C g.1.toNat := if_neg eg
          have eb : bsz Lk g.1 = some (Lk g.1.toNat) := if_neg eg
          rw [ec] at cl
          obtain ⟨m4, ads4, t1, t2, t3, t4⟩ := cl_chainLink (lk := Lk g.1.toNat) k3 F3 a10.1 a10.2.2 l2 cl (fun m hm => by
            rw [mup_ne _ _ (by omega), l1] at hm
            exact (lk_e hm).2.2.2.2.2.2.2.1) (by omega) (by omega)
          refine ⟨m4, ads4, by rw [eb]; exact t1, t2, by rw [ec]; exact t3, fun c c1 c2 => (t4 c c1 c2).trans (mup_ne _ _ c1)⟩
      have F4 := a9.put2 a10.1 a10.2.2 o4
      have hz4 : ∀ c, z ≤ c → m4 c = none := fun c hc => (o4 c (by omega) (by omega)).trans (a12 c hc)
      obtain ⟨m5, z1, w1, φ1, ads5, s5, k5, c5, y1, y2, y3, y4, f1, f2, f3, f4', f5, f6⟩ := cl_passage (z := z) (w := w) k4 c4 F4 a10.1 a10.2.2 a13 a11.1 a11.2 cl hP hQ hPOK g5 hz4
      have pl := psz_len K g.2.1 g.2.2.1 g.2.2.2.1 g.2.2.2.2
      have hlen := c5.1
      have e5 := xf_e k5.1
      have fr5 : ∀ c, c < z → c ≠ X → c ≠ X + 7 → m5 c = μ c := fun c c1 c2 c3 => (f3 c c1 c2 c3).trans (o4 c c2 c3)
      have eA' : mkA K nl G C g = if 24 < (chl C g.1 ++ psg K g).length then (-9 : Int) else if nl = 16 then (-8 : Int) else (nl : Int) := by
        rw [eA, hfd]
      have epsg : psg K g = psz K g.2.1 g.2.2.1 g.2.2.2.1 g.2.2.2.2 := rfl
      rw [s3, Option.bind_some, s4', Option.bind_some, s5, Option.bind_some]
      change ∃ μ' z' w', mmT z w z1 w1 ((mfI m5 (some X) [10] 8).bind _) = _ ∧ _
      rw [e5.2.2.2.2.2.2.2.2.2.1, Option.bind_some]
      obtain ⟨t7, f7', t8, t9⟩ := k5
      by_cases e24 : (chl C g.1 ++ psg K g).length ≤ 24
      · rw [epsg] at e24
        by_cases e16 : nl = 16
        · refine ⟨m5, z1, w1, ?_, y1, by omega, y3, by omega, fun c c1 c2 _ c4 => fr5 c c1 c2 c4, fun _ => hCK.keep t7 t8 fr5 y1 f5, fun q => absurd e16 q.2.2.2⟩
          apply mmT_i y1 y3
          · rw [if_pos (show nI ads5.length ≤ (24 : Int32) by rw [nI_iz, zi_24]; exact (iz_le (iR_s (by omega) (by omega)) (iR_s (by omega) (by omega))).mpr (by omega)), e5.2.2.2.2.2.1, Option.bind_some, if_neg (fun q => by rw [nI_iz, zi_16] at q; have := (iz_lt (iR_s (by omega) (by omega)) (iR_s (by omega) (by omega))).mp q; omega), eA', epsg, if_neg (by omega), if_pos e16, zi_m8]
          · exact Nat.le_refl _
          · exact Nat.le_refl _
        · have hn16 : nl < 16 := by omega
          obtain ⟨y, hy⟩ : ∃ y, y = z1 := ⟨_, rfl⟩
          have n5 : ∀ c, z1 ≤ c → φ1 c = none := fun c hc => by
            cases e : φ1 c with
            | none => rfl
            | some v =>
              have := f2 _ _ e
              rw [f5 c hc] at this
              cases this
          have hlt : ∀ a ∈ ads5, a < z1 ∧ ∃ ci fs, m5 a = some (.inr (ci, fs)) ∧ [0, 3, 4, 5, 6, 8].contains ci = true := by
            intro a ha
            obtain ⟨k, hk, ek⟩ := List.getElem_of_mem ha
            have hk2 : k < (chl C g.1 ++ psz K g.2.1 g.2.2.1 g.2.2.2.1 g.2.2.2.2).length := by omega
            obtain ⟨a', b1, b2, b3⟩ := c5.2 k _ (List.getElem?_eq_getElem hk2)
            rw [List.getElem?_eq_getElem hk, ek] at b1
            cases b1
            obtain ⟨ci, fs, d1, d2, d3⟩ := b2.1
            refine ⟨?_, ci, fs, f2 _ _ d1, d3⟩
            apply Nat.lt_of_not_le
            intro q
            rw [n5 _ q] at d1
            cases d1
          obtain ⟨R, hR⟩ : ∃ R, R = Pa ((if g.1 < 0 then g.2.1 else F g.1.toNat)).toNat := ⟨_, rfl⟩
          obtain ⟨m6, gg, t1, t2, t3, t4, t5⟩ := lk_new (X := X) (y := z1) (w := w1 + 9) (base := bsz Lk g.1) (P := Pa g.2.1.toNat) (Q := Pa g.2.2.1.toNat) (R := R) (it := g.2.2.2.1) (bk := g.2.2.2.2) t8 t9 (by omega) (by omega) (by omega) (fun a ha => by
            obtain ⟨q1, q2⟩ := hlt a ha
            exact ⟨by omega, by omega, q2⟩) (by
            by_cases eg : g.1 < 0
            · left
              unfold bsz
              rw [if_pos eg] at hR ⊢
              exact ⟨rfl, hR⟩
            · right
              obtain ⟨row, la, l1, l2, -⟩ := a5 g.1.toNat (by omega)
              have h8 := a8 g.1.toNat (by omega)
              have e9 : m5 (Lk g.1.toNat) = μ (Lk g.1.toNat) := fr5 _ (by omega) (by omega) (by omega)
              unfold bsz
              rw [if_neg eg] at hR ⊢
              refine ⟨_, rfl, by omega, ?_, fun m hm => ?_⟩
              · rw [hR]
                exact (lk_e (e9.trans l1)).2.2.2.2.2.2.1
              · rw [hR]
                exact (lk_e (hm.trans (e9.trans l1))).2.2.2.2.2.2.1)
          have x6 : m6 X = some (.inr (10, xF X kc (nI nl) (nI ads5.length) pr)) := (t5 X (by omega) (by omega)).trans t7
          have m64 : m6 (X + 4) = some (.inl (4, 16, .inr (.inr (.inr (.inr f4))))) := (t5 _ (by omega) (by omega)).trans ((fr5 _ (by omega) (by omega) (by omega)).trans a2)
          have s6 : msA m6 (some (X + 4)) (nI nl) (some z1) = some (mup m6 (X + 4) (.inl (4, 16, .inr (.inr (.inr (.inr (va_up f4 nl (some z1)))))))) := msA_i (k := 1) m64 (by decide) hn16 (by decide) t2 rfl
          have x7 : (mup m6 (X + 4) (.inl (4, 16, .inr (.inr (.inr (.inr (va_up f4 nl (some z1)))))))) X = some (.inr (10, xF X kc (nI nl) (nI ads5.length) pr)) := (mup_ne _ _ (by omega)).trans x6
          have s7 := xf_mc x7 (nI (nl + 1))
          have x8 : (mup (mup m6 (X + 4) (.inl (4, 16, .inr (.inr (.inr (.inr (va_up f4 nl (some z1)))))))) X (.inr (10, xF X kc (nI (nl + 1)) (nI ads5.length) pr))) X = _ := mup_self _ _ _
          have e9 : nI (nl + 1) - 1 = nI nl := by
            rw [nI_iz, nI_iz, zi_1, iz_sub]
            congr 1
            omega
          have m10 : (mup m5 z1 (.inr (7, lk0))) X = some (.inr (10, xF X kc (nI nl) (nI ads5.length) pr)) := (mup_ne _ _ (by omega)).trans t7
          have oo : ∀ c, c ≠ X → c ≠ X + 4 → c ≠ z1 → c ≠ z1 + 1 → (mup (mup m6 (X + 4) (.inl (4, 16, .inr (.inr (.inr (.inr (va_up f4 nl (some z1)))))))) X (.inr (10, xF X kc (nI (nl + 1)) (nI ads5.length) pr))) c = m5 c := fun c c1 c2 c3 c4 => by rw [mup_ne _ _ c1, mup_ne _ _ c2, t5 c c3 c4]
          refine ⟨_, z1 + 2, w1 + 9 + ads5.length, ?_, by omega, by omega, by omega, by omega, fun c c1 c2 c3 c4 => (oo c c2 c3 (by omega) (by omega)).trans (fr5 c c1 c2 c4), fun q => absurd ⟨e0, hfd, by rw [epsg]; exact e24, e16⟩ q, fun _ => ?_⟩
          · apply mmT_i y1 y3
            · rw [if_pos (show nI ads5.length ≤ (24 : Int32) by rw [nI_iz, zi_24]; exact (iz_le (iR_s (by omega) (by omega)) (iR_s (by omega) (by omega))).mpr (by omega)), e5.2.2.2.2.2.1, Option.bind_some, if_pos (show nI nl < (16 : Int32) by rw [nI_iz, zi_16]; exact (iz_lt (iR_s (by omega) (by omega)) (iR_s (by omega) (by omega))).mpr (by omega)), e5.2.2.2.2.1, Option.bind_some, Option.bind_some]
              unfold mnew
              rw [Option.bind_some]
              apply mmT_i (by show z1 ≤ z1 + 1; omega) (by show w1 ≤ w1 + 9; omega)
              · change ((mfA (mup m5 z1 (.inr (7, lk0))) (some X) [10] 7).bind fun v11 => (mfI (mup m5 z1 (.inr (7, lk0))) (some X) [10] 8).bind fun v12 => ((some z1).bind fun a => f_Link_init a (mup m5 z1 (.inr (7, lk0))) (z1 + 1) (w1 + 9) (bsz Lk g.1) (some (Pa g.2.1.toNat)) (some (Pa g.2.2.1.toNat)) (iz g.2.2.2.1) (iz (bI g.2.2.2.2)) v11 v12).bind _) = _
                rw [(xf_e m10).2.2.2.2.2.2.2.2.1, Option.bind_some, (xf_e m10).2.2.2.2.2.2.2.2.2.1, Option.bind_some, Option.bind_some, t1, Option.bind_some]
                apply mmT_i (by show z1 + 1 ≤ z1 + 2; omega) (by show w1 + 9 ≤ w1 + 9 + ads5.length; omega)
                · change ((msA m6 (some (X + 4)) (nI nl) (some z1)).bind _) = _
                  rw [s6, Option.bind_some, (xf_e x7).2.2.2.2.2.1, Option.bind_some, nI_s, s7, Option.bind_some, (xf_e x8).2.2.2.2.2.1, Option.bind_some, e9, eA', epsg, if_neg (by omega), if_neg e16, nI_iz]
                · exact Nat.le_refl _
                · exact Nat.le_refl _
              · show z1 + 1 ≤ z1 + 2
                omega
              · show w1 + 9 ≤ w1 + 9 + ads5.length
                omega
            · show z1 ≤ z1 + 2
              omega
            · show w1 ≤ w1 + 9 + ads5.length
              omega
          · have fr2 : Fr φ1 (mup φ1 (z1 + 1) (.inl (5, ads5.length, .inr (.inr (.inr (.inr gg)))))) := fun c v hc => by
              rw [mup_ne _ _ (fun q => by rw [q, n5 _ (by omega)] at hc; cases hc)]
              exact hc
            have bs : ∀ k : Int, k < nl → bsz (gup Lk nl z1) k = bsz Lk k := fun k hk => by
              unfold bsz
              by_cases e : k < 0
              · rw [if_pos e, if_pos e]
              · rw [if_neg e, if_neg e, gup_n _ _ (by omega)]
            have ch : ∀ k : Int, k < nl → chl (gup C nl (chl C g.1 ++ psg K g)) k = chl C k := fun k hk => by
              unfold chl
              by_cases e : k < 0
              · rw [if_pos e, if_pos e]
              · rw [if_neg e, if_neg e, gup_n _ _ (by omega)]
            have hL' : ads5.length = (chl C g.1 ++ psg K g).length := hlen
            refine ⟨_, z1, f1.tr fr2, fun c hc => (mup_ne _ _ (by omega)).trans (f4' c hc), fun c hc => ?_, ⟨_, x8⟩, ⟨va_up f4 nl (some z1), (mup_ne _ _ (by omega)).trans (mup_self _ _ _), fun k hk => ?_⟩, ⟨f7', (oo _ (by omega) (by omega) (by omega) (by omega)).trans t8⟩, fun k hk => ?_, fun i j hi hj hij => ?_, a7, fun k hk => ?_, fun c v hc => ?_, ?_, ⟨fr2 _ _ (f1 _ _ a11.1), fr2 _ _ (f1 _ _ a11.2)⟩, fun c hc => ?_, by omega, fun p hp => ?_, a15, fun k hk => ?_, ⟨by omega, a17.2⟩, fun k hk => ?_, fun k hk => ?_⟩
            · obtain ⟨a, fs, h1, h2⟩ := hc
              by_cases e : a = z1 + 1
              · rw [e, mup_self] at h1
                cases h1
              · rw [mup_ne _ _ e] at h1
                exact f6 c ⟨a, fs, h1, h2⟩
            · by_cases e : k = nl
              · rw [e, gup_s]
                simp [va_up]
              · rw [gup_n _ _ e]
                simp [va_up, e, a3 k (by omega)]
            · by_cases e : k = nl
              · subst e
                refine ⟨z1 + 1, jz (-1), ?_, ⟨gg, ?_, fun j q hq => ?_⟩, ?_⟩
                · rw [gup_s, mup_ne _ _ (by omega), mup_ne _ _ (by omega), t2]
                  unfold lkF
                  rw [gup_s, gup_s, gup_s, bs _ g1.2, hR]
                · rw [mup_self, gup_s, hL']
                · rw [gup_s] at hq
                  obtain ⟨a, b1, b2, b3⟩ := c5.2 j q hq
                  exact ⟨a, t4 j a b1, b2.mono fr2, b3.mono fr2⟩
                · rw [gup_s]
                  exact Or.inl rfl
              · obtain ⟨row, la, l1, l2, l3⟩ := a5 k (by omega)
                have h8 := a8 k (by omega)
                have h16 := a16 k (by omega)
                refine ⟨row, la, ?_, ?_, ?_⟩
                · rw [gup_n _ _ e, oo _ (by omega) (by omega) (by omega) (by omega), fr5 _ (by omega) (by omega) (by omega), l1]
                  unfold lkF
                  rw [gup_n _ _ e, gup_n _ _ e, gup_n _ _ e, bs _ (by omega)]
                · rw [gup_n _ _ e]
                  exact (l2.mono f1).mono fr2
                · rw [gup_n _ _ e, gup_n _ _ e]
                  exact l3
            · by_cases ei : i = nl
              · by_cases ej : j = nl
                · omega
                · rw [ei, gup_s, gup_n _ _ ej] at hij
                  have := a8 j (by omega)
                  omega
              · by_cases ej : j = nl
                · rw [ej, gup_s, gup_n _ _ ei] at hij
                  have := a8 i (by omega)
                  omega
                · rw [gup_n _ _ ei, gup_n _ _ ej] at hij
                  exact a6 i j (by omega) (by omega) hij
            · by_cases e : k = nl
              · rw [e, gup_s]
                exact ⟨by omega, by omega, (mup_ne _ _ (by omega)).trans (n5 _ (by omega))⟩
              · rw [gup_n _ _ e]
                have h8 := a8 k (by omega)
                exact ⟨h8.1, by omega, (mup_ne _ _ (by omega)).trans ((f4' _ (by omega)).trans h8.2.2)⟩
            · by_cases e : c = z1 + 1
              · rw [e, mup_self] at hc
                cases hc
                rw [e, mup_ne _ _ (by omega), mup_ne _ _ (by omega)]
                exact t3
              · rw [mup_ne _ _ e] at hc
                have c1 : c < z1 := by
                  apply Nat.lt_of_not_le
                  intro q
                  rw [n5 _ q] at hc
                  cases hc
                rw [oo c (fun q => by rw [q, f4' _ (by omega), a10.1] at hc; cases hc) (fun q => by rw [q, f4' _ (by omega), a10.2.1] at hc; cases hc) (by omega) e]
                exact f2 _ _ hc
            · exact ⟨(mup_ne _ _ (by omega)).trans ((f4' _ (by omega)).trans a10.1), (mup_ne _ _ (by omega)).trans ((f4' _ (by omega)).trans a10.2.1), (mup_ne _ _ (by omega)).trans ((f4' _ (by omega)).trans a10.2.2)⟩
            · rw [oo c (by omega) (by omega) (by omega) (by omega)]
              exact f5 c (by omega)
            · obtain ⟨el, n, q, hp'⟩ := a14 p hp
              exact ⟨el, n, q, (hp'.mono f1).mono fr2⟩
            · by_cases e : k = nl
              · rw [e, gup_s]
                exact ⟨g1.1, g1.2, g2, g3, g4⟩
              · rw [gup_n _ _ e]
                exact a16 k (by omega)
            · by_cases e : k = nl
              · rw [e, gup_s, gup_s, ch _ g1.2]
                exact ⟨rfl, by rw [epsg]; exact e24, hPOK⟩
              · have h16 := a16 k (by omega)
                rw [gup_n _ _ e, gup_n _ _ e, ch _ (by omega)]
                exact a18 k (by omega)
            · by_cases e : k = nl
              · rw [e, gup_s, gup_s]
                by_cases eg : g.1 < 0
                · rw [if_pos eg, if_pos eg]
                  exact ⟨rfl, g2.1, by omega⟩
                · rw [if_neg eg, if_neg eg, gup_n _ _ (by omega)]
                  exact ⟨rfl, (a19 _ (by omega)).2⟩
              · have h16 := a16 k (by omega)
                have h19 := a19 k (by omega)
                rw [gup_n _ _ e, gup_n _ _ e]
                by_cases eg : (G k).1 < 0
                · rw [if_pos eg] at h19 ⊢
                  exact h19
                · rw [if_neg eg] at h19 ⊢
                  rw [gup_n _ _ (by omega)]
                  exact h19
      · rw [epsg] at e24
        refine ⟨m5, z1, w1, ?_, y1, by omega, y3, by omega, fun c c1 c2 _ c4 => fr5 c c1 c2 c4, fun _ => hCK.keep t7 t8 fr5 y1 f5, fun q => absurd q.2.2.1 (by rw [epsg]; exact e24)⟩
        apply mmT_i y1 y3
        · rw [if_neg (fun q => by rw [nI_iz, zi_24] at q; have := (iz_le (iR_s (by rw [hlen, List.length_append]; omega) (by rw [hlen, List.length_append]; omega)) (iR_s (by omega) (by omega))).mp q; omega), eA', epsg, if_pos (by omega), zi_m9]
        · exact Nat.le_refl _
        · exact Nat.le_refl _
  · refine ⟨μ, z, w, ?_, by omega, by omega, by omega, by omega, fun _ _ _ _ _ => rfl, fun _ => hCK, fun q => absurd q.1 e0⟩
    have eA : mkA K nl G C g = rfz K g.2.1 g.2.2.1 g.2.2.2.1 g.2.2.2.2 := if_pos (by omega)
    rw [if_neg (fun q => e0 (by rw [zi_0] at q; exact (iz_eq (iR_s (by omega) (by omega)) (iR_s (by omega) (by omega))).mp q)), eA]
end JND
