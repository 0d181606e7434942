/-! The class's links. -/
def RowX (φ : mM) (K : Int → Int) (ra : Nat) (l : List Pz) : Prop := ∃ f : Nat → Option Nat, φ ra = some (.inl (5, l.length, .inr (.inr (.inr (.inr f))))) ∧ ∀ (k : Nat) (q : Pz), l[k]? = some q → ∃ a, f k = some a ∧ PcR φ a q.1 (pf K q) ∧ LO φ a false
theorem RowX.r {φ : mM} {K : Int → Int} {ra : Nat} {l : List Pz} (h : RowX φ K ra l) : RowR φ K ra l := by
  obtain ⟨f, h1, h2⟩ := h
  exact ⟨f, ⟨2, by decide, h1⟩, fun k q hq => by
    obtain ⟨a, a1, a2, -⟩ := h2 k q hq
    exact ⟨a, a1, a2⟩⟩
theorem RowX.mono {φ ψ : mM} {K : Int → Int} {ra : Nat} {l : List Pz} (h : RowX φ K ra l) (hf : Fr φ ψ) : RowX ψ K ra l := by
  obtain ⟨f, h1, h2⟩ := h
  exact ⟨f, hf _ _ h1, fun k q hq => by
    obtain ⟨a, a1, a2, a3⟩ := h2 k q hq
    exact ⟨a, a1, a2.mono hf, a3.mono hf⟩⟩
def bsz (Lk : Nat → Nat) (k : Int) : Option Nat := if k < 0 then none else some (Lk k.toNat)
/-- the fields of a link -/
def lkF (G : Nat → Lz) (F : Nat → Int) (Pa Lk : Nat → Nat) (row : Nat) (lc la : Int64) (k : Nat) : List Value := [va_rf (bsz Lk (G k).1), .ref (Pa (G k).2.1.toNat), .ref (Pa (G k).2.2.1.toNat), .int (iz (G k).2.2.2.1), .int (iz (bI (G k).2.2.2.2)), .ref (Pa (F k).toNat), .ref row, .long lc, .long la]
def LKS (μ φ : mM) (K : Int → Int) (nl : Nat) (G : Nat → Lz) (C : Nat → List Pz) (F : Nat → Int) (Pa Lk : Nat → Nat) (L : Nat → Int64) : Prop := ∀ k, k < nl → ∃ (row : Nat) (la : Int64), μ (Lk k) = some (.inr (7, lkF G F Pa Lk row (L k) la k)) ∧ RowX φ K row (C k) ∧ (L k = jz (-1) ∨ ∃ x y t : Int, lvl x ∧ lvl y ∧ lvl t ∧ L k = jz (pk (v3 x y t)) ∧ la = jz (pk (runz K (C k) (v3 x y t))))
section JON
variable {φ μ : mM} {X z w : Nat} {K : Int → Int} {kc mc pr : Int32} {nl : Nat} {G : Nat → Lz} {C : Nat → List Pz} {F : Nat → Int} {Pa Lk : Nat → Nat} {L : Nat → Int64}
theorem cl_chainLink {lk ra : Nat} {l : List Pz} (h : CHS μ X kc mc pr []) (hF : Fr φ μ) (hX : φ X = none) (hX7 : φ (X + 7) = none) (hr : RowX φ K ra l) (hl : l.length ≤ 24) (h6 : ∀ m : mM, m lk = μ lk → mfA m (some lk) [7] 6 = some (some ra)) (n1 : lk ≠ X) (n2 : lk ≠ X + 7) : ∃ μ' ads', ((mrc μ (some X) 10).bind fun a => f_CL_chainLink a μ (some lk)) = some μ' ∧ CHS μ' X kc mc pr ads' ∧ ChR φ K ads' l ∧ ∀ b, b ≠ X → b ≠ X + 7 → μ' b = μ b := by
  obtain ⟨f, r1, r2⟩ := hr
  have loop : ∀ (j fu i : Nat) (m : mM) (ads : List Nat), j < fu → i + j = l.length → CHS m X kc mc pr ads → ChR φ K ads (l.take i) → (∀ b, b ≠ X → b ≠ X + 7 → m b = μ b) → ∃ μ' ads', f_CL_chainLink_7 X (fun μ => f_CL_chainLink_32 X μ) fu m (some lk) (nI i) = some μ' ∧ CHS μ' X kc mc pr ads' ∧ ChR φ K ads' l ∧ ∀ b, b ≠ X → b ≠ X + 7 → μ' b = μ b := by
    intro j
    induction j with
    | zero =>
      intro fu i m ads hf hi hm hc ho
      obtain ⟨fu, rfl⟩ : ∃ m, fu = m + 1 := ⟨fu - 1, by omega⟩
      have Fm := hF.put2 hX hX7 ho
      refine ⟨m, ads, ?_, hm, ?_, ho⟩
      · rw [f_CL_chainLink_7, h6 m (ho lk n1 n2), Option.bind_some, ml_i (Fm _ _ r1) (by decide), Option.bind_some, if_pos ((nIz_le (by show l.length < _; omega) (by omega)).mpr (by show l.length ≤ _; omega))]
        rfl
      · rw [List.take_of_length_le (by omega)] at hc
        exact hc
    | succ j ih =>
      intro fu i m ads hf hi hm hc ho
      obtain ⟨fu, rfl⟩ : ∃ m, fu = m + 1 := ⟨fu - 1, by omega⟩
      have Fm := hF.put2 hX hX7 ho
      have hil : i < l.length := by omega
      obtain ⟨a, a1, a2, a3⟩ := r2 i l[i] (List.getElem?_eq_getElem hil)
      have hpb : PB φ K (some a) [l[i]] := by
        obtain ⟨ci, fs, g1, g2, g3⟩ := a2.1
        exact Or.inr ⟨a, l[i], false, rfl, fun _ => a2, a3, ⟨ci, fs, g1, g3⟩, rfl⟩
      obtain ⟨m1, ads1, s1, k1, c1, o1⟩ := cl_chain hm hc Fm (by rw [List.length_take]; omega) hpb
      rw [← List.take_succ_eq_append_getElem hil] at c1
      obtain ⟨m2, ads2, s2, k2, c2, o2⟩ := ih fu (i + 1) m1 ads1 (by omega) (by omega) k1 c1 (fun b h1 h2 => (o1 b h1 h2).trans (ho b h1 h2))
      refine ⟨m2, ads2, ?_, k2, c2, o2⟩
      rw [f_CL_chainLink_7, h6 m (ho lk n1 n2), Option.bind_some, ml_i (Fm _ _ r1) (by decide), Option.bind_some, if_neg (fun q => by have := (nIz_le (by show l.length < _; omega) (by omega)).mp q; change l.length ≤ i at this; omega), Option.bind_some, mgA_i (k := 2) (Fm _ _ r1) (by decide) hil (by omega), Option.bind_some, a1, s1, Option.bind_some, nI_s]
      exact s2
  rw [(xf_e h.1).1, Option.bind_some]
  unfold f_CL_chainLink
  rw [if_neg (by simp)]
  exact loop l.length 4096 0 μ [] (by omega) (by omega) h ⟨rfl, fun k q hq => by simp at hq⟩ (fun _ _ _ => rfl)
theorem lk_e {lk row k : Nat} {lc la : Int64} (h : μ lk = some (.inr (7, lkF G F Pa Lk row lc la k))) : mrc μ (some lk) 7 = some lk ∧ mfA μ (some lk) [7] 0 = some (bsz Lk (G k).1) ∧ mfA μ (some lk) [7] 1 = some (some (Pa (G k).2.1.toNat)) ∧ mfA μ (some lk) [7] 2 = some (some (Pa (G k).2.2.1.toNat)) ∧ mfI μ (some lk) [7] 3 = some (iz (G k).2.2.2.1) ∧ mfI μ (some lk) [7] 4 = some (iz (bI (G k).2.2.2.2)) ∧ mfA μ (some lk) [7] 5 = some (some (Pa (F k).toNat)) ∧ mfA μ (some lk) [7] 6 = some (some row) ∧ mfJ μ (some lk) [7] 7 = some lc ∧ mfJ μ (some lk) [7] 8 = some la := ⟨mrc_i h, mfA_i h rfl rfl, mfA_i (v := some (Pa (G k).2.1.toNat)) h rfl rfl, mfA_i (v := some (Pa (G k).2.2.1.toNat)) h rfl rfl, mfI_i h rfl rfl, mfI_i h rfl rfl, mfA_i (v := some (Pa (F k).toNat)) h rfl rfl, mfA_i (v := some row) h rfl rfl, mfJ_i h rfl rfl, mfJ_i h rfl rfl⟩
/-- profiles and links are known by where they are -/
def INJ (n : Nat) (f : Nat → Nat) : Prop := ∀ i j, i < n → j < n → f i = f j → i = j
theorem bsz_inj {Lk : Nat → Nat} (hI : INJ nl Lk) {i j : Int} (i0 : -1 ≤ i) (i1 : i < nl) (j0 : -1 ≤ j) (j1 : j < nl) : bsz Lk i = bsz Lk j ↔ i = j := by
  refine ⟨fun h => ?_, fun h => by rw [h]⟩
  unfold bsz at h
  by_cases a : i < 0
  · rw [if_pos a] at h
    by_cases b : j < 0
    · omega
    · rw [if_neg b] at h
      cases h
  · rw [if_neg a] at h
    by_cases b : j < 0
    · rw [if_pos b] at h
      cases h
    · rw [if_neg b] at h
      have h' := Option.some.inj h
      have := hI _ _ (by omega) (by omega) h'
      omega
theorem cl_find {np : Nat} {f4 : Nat → Option Nat} {cc : Int32} (hx : μ X = some (.inr (10, xF X kc (nI nl) cc pr))) (hn : nl ≤ 16) (h4 : μ (X + 4) = some (.inl (4, 16, .inr (.inr (.inr (.inr f4)))))) (hf4 : ∀ k, k < nl → f4 k = some (Lk k)) (hL : LKS μ φ K nl G C F Pa Lk L) (hI : INJ nl Lk) (hP : INJ np Pa) (hG : ∀ k, k < nl → -1 ≤ (G k).1 ∧ (G k).1 < k ∧ (0 ≤ (G k).2.1 ∧ (G k).2.1 < np) ∧ (0 ≤ (G k).2.2.1 ∧ (G k).2.2.1 < np) ∧ iR (G k).2.2.2.1) {g : Lz} (g1 : -1 ≤ g.1 ∧ g.1 < nl) (g2 : 0 ≤ g.2.1 ∧ g.2.1 < np) (g3 : 0 ≤ g.2.2.1 ∧ g.2.2.1 < np) (g4 : iR g.2.2.2.1) : ((mrc μ (some X) 10).bind fun a => f_CL_findMade μ a (bsz Lk g.1) (some (Pa g.2.1.toNat)) (some (Pa g.2.2.1.toNat)) (iz g.2.2.2.1) (iz (bI g.2.2.2.2))) = some (match fndz G g nl 0 with | some k => nI k | none => -1) := by
  have E := xf_e hx
  have loop : ∀ (n fu i : Nat), n < fu → i + n = nl → f_CL_findMade_3 μ X (fun (_ : Unit) => f_CL_findMade_41 μ X) fu (bsz Lk g.1) (some (Pa g.2.1.toNat)) (some (Pa g.2.2.1.toNat)) (iz g.2.2.2.1) (iz (bI g.2.2.2.2)) (nI i) = some (match fndz G g n i with | some k => nI k | none => -1) := by
    intro n
    induction n with
    | zero =>
      intro fu i hf hi
      obtain ⟨fu, rfl⟩ : ∃ m, fu = m + 1 := ⟨fu - 1, by omega⟩
      rw [f_CL_findMade_3, E.2.2.2.2.2.1, Option.bind_some, if_pos ((nIz_le (by omega) (by omega)).mpr (by omega))]
      rfl
    | succ n ih =>
      intro fu i hf hi
      obtain ⟨fu, rfl⟩ : ∃ m, fu = m + 1 := ⟨fu - 1, by omega⟩
      obtain ⟨row, la, l1, l2, l3⟩ := hL i (by omega)
      obtain ⟨q1, q2, q3, q4, q5⟩ := hG i (by omega)
      have M := lk_e l1
      have ih' := ih fu (i + 1) (by omega) (by omega)
      rw [f_CL_findMade_3, E.2.2.2.2.2.1, Option.bind_some, if_neg (fun q => by have := (nIz_le (by omega) (by omega)).mp q; omega), E.2.2.2.2.1, Option.bind_some, mgA_i (k := 1) h4 (by decide) (by omega) (by omega), Option.bind_some, hf4 i (by omega), M.1, Option.bind_some]
      have wm : f_Link_wasMadeFrom μ (Lk i) (bsz Lk g.1) (some (Pa g.2.1.toNat)) (some (Pa g.2.2.1.toNat)) (iz g.2.2.2.1) (iz (bI g.2.2.2.2)) = some (iz (bI (decide (G i = g)))) := by
        unfold f_Link_wasMadeFrom f_Link_wasMadeFrom_46 f_Link_wasMadeFrom_47
        rw [M.2.1, Option.bind_some, M.2.2.1, Option.bind_some, M.2.2.2.1, Option.bind_some, M.2.2.2.2.1, Option.bind_some, M.2.2.2.2.2.1, Option.bind_some]
        have no : G i ≠ g → ((mz (0 : Int32)).bind fun v6 => some v6) = some (iz (bI (decide (G i = g)))) := fun q => by
          rw [decide_eq_false q]
          rfl
        by_cases e1 : (G i).1 = g.1
        · rw [if_pos ((bsz_inj hI q1 (by omega) g1.1 g1.2).mpr e1)]
          by_cases e2 : (G i).2.1 = g.2.1
          · rw [if_pos (by rw [e2])]
            by_cases e3 : (G i).2.2.1 = g.2.2.1
            · rw [if_pos (by rw [e3])]
              by_cases e4 : (G i).2.2.2.1 = g.2.2.2.1
              · rw [if_pos (congrArg iz e4)]
                by_cases e5 : (G i).2.2.2.2 = g.2.2.2.2
                · rw [if_pos (bI_eq.mpr e5), decide_eq_true (Prod.ext e1 (Prod.ext e2 (Prod.ext e3 (Prod.ext e4 e5))))]
                  rfl
                · rw [if_neg (fun q => e5 (bI_eq.mp q))]
                  exact no (fun q => e5 (by rw [q]))
              · rw [if_neg (fun q => e4 ((iz_eq q5 g4).mp q))]
                exact no (fun q => e4 (by rw [q]))
            · rw [if_neg (fun q => e3 (by have := hP _ _ (by omega) (by omega) (Option.some.inj q); omega))]
              exact no (fun q => e3 (by rw [q]))
          · rw [if_neg (fun q => e2 (by have := hP _ _ (by omega) (by omega) (Option.some.inj q); omega))]
            exact no (fun q => e2 (by rw [q]))
        · rw [if_neg (fun q => e1 ((bsz_inj hI q1 (by omega) g1.1 g1.2).mp q))]
          exact no (fun q => e1 (by rw [q]))
      rw [wm, Option.bind_some, nI_s]
      unfold fndz
      by_cases e : G i = g
      · rw [decide_eq_true e, if_neg (by decide), if_pos e]
      · rw [decide_eq_false e, if_pos (by decide), if_neg e]
        exact ih'
  rw [E.1, Option.bind_some]
  exact loop nl 4096 0 (by omega) (by omega)
end JON
