/-! The class chains pieces. -/
theorem mmT_i {α : Type} {z w z1 w1 : Nat} {o : Option (α × mM × Nat × Nat)} {r : α × mM × Nat × Nat} (h1 : z ≤ z1) (h2 : w ≤ w1) (h : o = some r) (h3 : z1 ≤ r.2.2.1) (h4 : w1 ≤ r.2.2.2) : mmT z w z1 w1 o = some r := by
  unfold mmT
  rw [if_pos ⟨h1, h2⟩, h, Option.bind_some, if_pos ⟨h3, h4⟩]
theorem mmV_i {z w z1 w1 : Nat} {o : Option (mM × Nat × Nat)} {r : mM × Nat × Nat} (h1 : z ≤ z1) (h2 : w ≤ w1) (h : o = some r) (h3 : z1 ≤ r.2.1) (h4 : w1 ≤ r.2.2) : mmV z w z1 w1 o = some r := by
  unfold mmV
  rw [if_pos ⟨h1, h2⟩, h, Option.bind_some, if_pos ⟨h3, h4⟩]
def xF (X : Nat) (kc mc cc pr : Int32) : List Value := [.ref (X + 1), .ref (X + 3), .int kc, .ref (X + 4), .int mc, .ref (X + 5), .ref (X + 6), .ref (X + 7), .int cc, .ref (X + 8), .int pr]
def CHS (μ : mM) (X : Nat) (kc mc pr : Int32) (ads : List Nat) : Prop := μ X = some (.inr (10, xF X kc mc (nI ads.length) pr)) ∧ ∃ f, μ (X + 7) = some (.inl (5, 32, .inr (.inr (.inr (.inr f))))) ∧ ∀ (k : Nat) (a : Nat), ads[k]? = some a → f k = some a
theorem LO.mono {φ ψ : mM} {a : Nat} {u : Bool} (h : LO φ a u) (hf : Fr φ ψ) : LO ψ a u := by
  obtain ⟨ci, fs, h1, h2⟩ := h
  exact ⟨ci, fs, hf _ _ h1, h2⟩
def ChR (φ : mM) (K : Int → Int) (ads : List Nat) (l : List Pz) : Prop := ads.length = l.length ∧ ∀ (k : Nat) (q : Pz), l[k]? = some q → ∃ a, ads[k]? = some a ∧ PcR φ a q.1 (pf K q) ∧ LO φ a false
theorem ChR.mono {φ ψ : mM} {K : Int → Int} {ads : List Nat} {l : List Pz} (h : ChR φ K ads l) (hf : Fr φ ψ) : ChR ψ K ads l := ⟨h.1, fun k q hq => by
  obtain ⟨a, h1, h2, h3⟩ := h.2 k q hq
  exact ⟨a, h1, h2.mono hf, h3.mono hf⟩⟩
theorem ChR.snoc {φ : mM} {K : Int → Int} {ads : List Nat} {l : List Pz} (h : ChR φ K ads l) {a : Nat} {q : Pz} (hp : PcR φ a q.1 (pf K q)) (hl : LO φ a false) : ChR φ K (ads ++ [a]) (l ++ [q]) := by
  refine ⟨by simp [h.1], fun k x hx => ?_⟩
  rw [List.getElem?_append] at hx ⊢
  rw [h.1]
  by_cases hk : k < l.length
  · rw [if_pos hk] at hx ⊢
    exact h.2 k x hx
  · rw [if_neg hk] at hx ⊢
    have h1 : k - l.length = 0 := by
      have := (List.getElem?_eq_some_iff.mp hx).1
      simp at this
      omega
    rw [h1] at hx ⊢
    simp at hx
    subst hx
    exact ⟨a, rfl, hp, hl⟩
theorem msA_i {μ : mM} {a k n i b ci : Nat} {fs : List Value} {f : Nat → Option Nat} (h : μ a = some (.inl (k + 3, n, .inr (.inr (.inr (.inr f)))))) (hk : k < 5) (hi : i < n) (hn : n < 2 ^ 31) (hb : μ b = some (.inr (ci, fs))) (hc : (mok k).contains ci = true) : msA μ (some a) (nI i) (some b) = some (mup μ a (.inl (k + 3, n, .inr (.inr (.inr (.inr (va_up f i (some b)))))))) := by
  have h2 : (nI i).toNatClampNeg = i := nI_clamp (by omega)
  simp only [msA, h]
  rw [if_pos hk, if_neg (ng_in hi hn), hb]
  simp only []
  rw [if_pos hc, h2]
section CHN
variable {φ μ : mM} {X : Nat} {K : Int → Int} {kc mc pr : Int32} {ads : List Nat} {l : List Pz}
theorem xf_e {cc : Int32} (h : μ X = some (.inr (10, xF X kc mc cc pr))) : mrc μ (some X) 10 = some X ∧ mfA μ (some X) [10] 0 = some (some (X + 1)) ∧ mfA μ (some X) [10] 1 = some (some (X + 3)) ∧ mfI μ (some X) [10] 2 = some kc ∧ mfA μ (some X) [10] 3 = some (some (X + 4)) ∧ mfI μ (some X) [10] 4 = some mc ∧ mfA μ (some X) [10] 5 = some (some (X + 5)) ∧ mfA μ (some X) [10] 6 = some (some (X + 6)) ∧ mfA μ (some X) [10] 7 = some (some (X + 7)) ∧ mfI μ (some X) [10] 8 = some cc ∧ mfA μ (some X) [10] 9 = some (some (X + 8)) ∧ mfI μ (some X) [10] 10 = some pr := ⟨mrc_i h, mfA_i (v := some (X + 1)) h rfl rfl, mfA_i (v := some (X + 3)) h rfl rfl, mfI_i h rfl rfl, mfA_i (v := some (X + 4)) h rfl rfl, mfI_i h rfl rfl, mfA_i (v := some (X + 5)) h rfl rfl, mfA_i (v := some (X + 6)) h rfl rfl, mfA_i (v := some (X + 7)) h rfl rfl, mfI_i h rfl rfl, mfA_i (v := some (X + 8)) h rfl rfl, mfI_i h rfl rfl⟩
theorem xf_cc {cc : Int32} (h : μ X = some (.inr (10, xF X kc mc cc pr))) (x : Int32) : mpI μ (some X) [10] 8 x = some (mup μ X (.inr (10, xF X kc mc x pr))) := mpV_i h rfl (by simp [xF])
theorem xf_mc {cc : Int32} (h : μ X = some (.inr (10, xF X kc mc cc pr))) (x : Int32) : mpI μ (some X) [10] 4 x = some (mup μ X (.inr (10, xF X kc x cc pr))) := mpV_i h rfl (by simp [xF])
theorem xf_kc {cc : Int32} (h : μ X = some (.inr (10, xF X kc mc cc pr))) (x : Int32) : mpI μ (some X) [10] 2 x = some (mup μ X (.inr (10, xF X x mc cc pr))) := mpV_i h rfl (by simp [xF])
theorem xf_pr {cc : Int32} (h : μ X = some (.inr (10, xF X kc mc cc pr))) (x : Int32) : mpI μ (some X) [10] 10 x = some (mup μ X (.inr (10, xF X kc mc cc x))) := mpV_i h rfl (by simp [xF])
theorem cl_chain (h : CHS μ X kc mc pr ads) (hC : ChR φ K ads l) (hF : Fr φ μ) (hl : l.length < 32) {x : Option Nat} {lx : List Pz} (hx : PB φ K x lx) : ∃ μ' ads', ((mrc μ (some X) 10).bind fun a => f_CL_chainPiece a μ x) = some μ' ∧ CHS μ' X kc mc pr ads' ∧ ChR φ K ads' (l ++ lx) ∧ ∀ b, b ≠ X → b ≠ X + 7 → μ' b = μ b := by
  obtain ⟨h1, f, h2, h3⟩ := h
  have E := xf_e h1
  have hlen := hC.1
  unfold f_CL_chainPiece f_CL_chainPiece_23
  rw [E.1, Option.bind_some]
  rcases hx with ⟨rfl, rfl⟩ | ⟨a, q, u, rfl, hp, hlo, ⟨ci, fs, c1, c2⟩, rfl⟩
  · refine ⟨μ, ads, ?_, ⟨h1, f, h2, h3⟩, by rw [List.append_nil]; exact hC, fun _ _ _ => rfl⟩
    rw [if_pos rfl]
  · obtain ⟨ci', fs', c3, c4⟩ := hlo
    have e1 : mfI μ (some a) [0, 3, 4, 5, 6, 8] 1 = some (iz (bI u)) := by
      rw [c1] at c3
      cases c3
      exact mfI_i (hF _ _ c1) c2 c4
    rw [if_neg (by simp), e1, Option.bind_some]
    cases u with
    | true =>
      refine ⟨μ, ads, ?_, ⟨h1, f, h2, h3⟩, by rw [if_pos rfl, List.append_nil]; exact hC, fun _ _ _ => rfl⟩
      rw [if_neg (by decide)]
    | false =>
      have hXne : X ≠ X + 7 := by omega
      have s1 : msA μ (some (X + 7)) (nI ads.length) (some a) = some (mup μ (X + 7) (.inl (5, 32, .inr (.inr (.inr (.inr (va_up f ads.length (some a)))))))) := msA_i (k := 2) h2 (by decide) (by omega) (by decide) (hF _ _ c1) c2
      have h1' : (mup μ (X + 7) (.inl (5, 32, .inr (.inr (.inr (.inr (va_up f ads.length (some a)))))))) X = some (.inr (10, xF X kc mc (nI ads.length) pr)) := (mup_ne _ _ hXne).trans h1
      have E' := xf_e h1'
      refine ⟨mup (mup μ (X + 7) (.inl (5, 32, .inr (.inr (.inr (.inr (va_up f ads.length (some a)))))))) X (.inr (10, xF X kc mc (nI (ads.length + 1)) pr)), ads ++ [a], ?_, ⟨?_, va_up f ads.length (some a), ?_, fun k b hk => ?_⟩, hC.snoc (hp rfl) ⟨ci', fs', c3, c4⟩, fun b hb1 hb2 => ?_⟩
      · rw [if_pos (by decide), E.2.2.2.2.2.2.2.2.2.1, Option.bind_some, E.2.2.2.2.2.2.2.2.1, Option.bind_some, ml_i h2 (by decide), Option.bind_some, if_pos (show nI ads.length < nI 32 by rw [nI_iz, nI_iz]; exact (iz_lt (iR_s (by omega) (by omega)) (iR_s (by omega) (by omega))).mpr (by omega)), Option.bind_some, Option.bind_some, s1, Option.bind_some, E'.2.2.2.2.2.2.2.2.2.1, Option.bind_some, nI_s, xf_cc h1', Option.bind_some]
      · rw [mup_self, List.length_append]
        rfl
      · rw [mup_ne _ _ (by omega), mup_self]
      · rw [List.getElem?_append] at hk
        by_cases hkl : k < ads.length
        · rw [if_pos hkl] at hk
          have hne : k ≠ ads.length := by omega
          simp [va_up, hne, h3 k b hk]
        · rw [if_neg hkl] at hk
          have h0 : k = ads.length := by
            have := (List.getElem?_eq_some_iff.mp hk).1
            simp at this
            omega
          subst h0
          simp at hk
          subst hk
          simp [va_up]
      · rw [mup_ne _ _ hb1, mup_ne _ _ hb2]
theorem aj_new {z P Q : Nat} {kd it : Int} : ∃ μ', f_Adjust_init z (mup μ z (.inr (0, [.int 0, .int 0, .null, .null, .int 0]))) (iz kd) (some P) (some Q) (iz it) = some μ' ∧ AJ μ' z kd P Q it ∧ ∀ b, b ≠ z → μ' b = μ b := by
  refine ⟨mup (mup (mup (mup (mup (mup μ z (.inr (0, [.int 0, .int 0, .null, .null, .int 0]))) z (.inr (0, [.int (iz kd), .int 0, .null, .null, .int 0]))) z (.inr (0, [.int (iz kd), .int 0, .null, .null, .int 0]))) z (.inr (0, [.int (iz kd), .int 0, .ref P, .null, .int 0]))) z (.inr (0, [.int (iz kd), .int 0, .ref P, .ref Q, .int 0]))) z (.inr (0, [.int (iz kd), .int 0, .ref P, .ref Q, .int (iz it)])), ?_, mup_self _ _ _, fun b hb => ?_⟩
  · unfold f_Adjust_init f_Piece_init
    rw [Option.bind_some, show mpI (mup μ z (.inr (0, [.int 0, .int 0, .null, .null, .int 0]))) (some z) [0, 3, 4, 5, 6, 8] 0 (iz kd) = _ from mpV_i (mup_self _ _ _) rfl (by decide), Option.bind_some]
    unfold mpZ
    rw [if_pos (Or.inl rfl), mpV_i (mup_self _ _ _) rfl (by simp), Option.bind_some, Option.bind_some]
    unfold mpA mpI
    rw [mpV_i (mup_self _ _ _) rfl (by simp), Option.bind_some, mpV_i (mup_self _ _ _) rfl (by simp), Option.bind_some, mpV_i (mup_self _ _ _) rfl (by simp), Option.bind_some]
    rfl
  · rw [mup_ne _ _ hb, mup_ne _ _ hb, mup_ne _ _ hb, mup_ne _ _ hb, mup_ne _ _ hb, mup_ne _ _ hb]
end CHN
