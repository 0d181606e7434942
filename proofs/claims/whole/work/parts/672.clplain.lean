/-! The class's plainForm. -/
theorem mcopy_i {μ : mM} {a0 a n0 n1 sp dp k : Nat} {f g : Nat → Int32} (h1 : μ a0 = some (.inl (0, n0, .inl f))) (h2 : μ a = some (.inl (0, n1, .inl g))) (hs : sp + k ≤ n0) (hd : dp + k ≤ n1) (b0 : n0 < 65536) (b1 : n1 < 65536) : mcopy μ (some a0) (nI sp) (some a) (nI dp) (nI k) = some (mup μ a (.inl (0, n1, .inl (va_cpy f g sp dp k)))) := by
  have e1 : (nI sp).toNatClampNeg = sp := nI_clamp (by omega)
  have e2 : (nI dp).toNatClampNeg = dp := nI_clamp (by omega)
  have e3 : (nI k).toNatClampNeg = k := nI_clamp (by omega)
  have p : ∀ m : Nat, m < 65536 → ¬ nI m < 0 := fun m hm q => by
    rw [nI_iz, zi_0] at q
    have := (iz_lt (iR_s (by omega) (by omega)) (iR_s (by omega) (by omega))).mp q
    omega
  simp only [mcopy, h1, h2]
  rw [if_neg, e1, e2, e3]
  rw [e1, e2, e3]
  rintro (q | q | q | q | q)
  · exact p sp (by omega) q
  · exact p dp (by omega) q
  · exact p k (by omega) q
  · omega
  · omega
theorem mna_0 {μ : mM} {z n : Nat} (hn : n < 65536) : mna μ z 0 (nI n) = some (mup μ z (.inl (0, n, .inl (fun _ => 0)))) := by
  have e3 : (nI n).toNatClampNeg = n := nI_clamp (by omega)
  unfold mna
  rw [if_neg, e3]
  · rfl
  · rw [e3]
    rintro (q | q)
    · rw [nI_iz, zi_0] at q
      have := (iz_lt (iR_s (by omega) (by omega)) (iR_s (by omega) (by omega))).mp q
      omega
    · omega
section CPF
variable {μ : mM} {X : Nat} {n : Nat} {b q : Int → Int}
/-- the plain row being made -/
def PRo (μ : mM) (pa : Nat) (q : Int → Int) : Prop := ∃ f : Nat → Int32, μ pa = some (.inl (0, 256, .inl f)) ∧ ∀ i : Nat, 2 ≤ i → i < 256 → f i = iz (q i)
theorem pro_g {pa : Nat} (h : PRo μ pa q) {i : Int} (h0 : 2 ≤ i) (h1 : i < 256) : mgI μ (some pa) (iz i) = some (iz (q i)) := by
  obtain ⟨f, h2, h3⟩ := h
  rw [iz_nat (by omega), mgI_i h2 (by omega) (by decide), h3 _ (by omega) (by omega), Int.toNat_of_nonneg (by omega)]
theorem pro_s {pa : Nat} (h : PRo μ pa q) {i : Int} (h0 : 2 ≤ i) (h1 : i < 256) (x : Int) : ∃ μ', msI μ (some pa) (iz i) (iz x) = some μ' ∧ PRo μ' pa (zu q i x) ∧ ∀ c, c ≠ pa → μ' c = μ c := by
  obtain ⟨f, h2, h3⟩ := h
  refine ⟨_, by rw [iz_nat (by omega)]; exact msI_i h2 (by omega) (by decide), ⟨_, mup_self _ _ _, fun j j0 j1 => ?_⟩, fun c hc => mup_ne _ _ hc⟩
  unfold upd zu
  by_cases e2 : j = i.toNat
  · rw [if_pos e2, if_pos (by omega)]
  · rw [if_neg e2, if_neg (by omega), h3 j j0 j1]
theorem cl_fdI (h : BU μ X n b) (hn : n ≤ 256) (hb : Byt b) (hq : Byt q) {pa : Nat} (hp : PRo μ pa q) (kx : (Option Nat) → Int32 → Int32 → Int32 → Int32 → Int32 → Option Int32) {x2 : Int32} {o l r : Int} (h0 : 0 ≤ o) (hl : 0 ≤ l) (ho : o + l ≤ n) (hr : 8 ≤ r ∧ r < 200) (hd : 2 ≤ q (r + 1)) : ∀ (m fu : Nat) (j : Int) (u : Bool), (u = true → q (r + 1) + l ≤ 256) → m < fu → 0 ≤ j → j + m = l → f_Buffer_findData_31 μ (X + 1) kx fu (some pa) x2 (iz o) (iz l) (iz r) (iz (bI u)) (iz j) = kx (some pa) x2 (iz o) (iz l) (iz r) (iz (bI (u && eqB (fun j => q (q (r + 1) + j)) (fun j => b (o + j)) m j))) := by
  intro m
  induction m with
  | zero =>
    intro fu j u hu hf hj hm
    obtain ⟨fu, rfl⟩ : ∃ m, fu = m + 1 := ⟨fu - 1, by omega⟩
    rw [f_Buffer_findData_31, qbI, qle (iR_s (by omega) (by omega)) (iR_s (by omega) (by omega)), if_pos (show l ≤ j by omega)]
    unfold eqB
    rw [Bool.and_true]
    cases u <;> rfl
  | succ m ih =>
    intro fu j u hu hf hj hm
    obtain ⟨fu, rfl⟩ : ∃ m, fu = m + 1 := ⟨fu - 1, by omega⟩
    have q1 := hq (r + 1)
    rw [f_Buffer_findData_31, qbI]
    cases u
    · rw [if_neg (by decide), Bool.false_and]
    · have hu' := hu rfl
      have q2 := hq (q (r + 1) + j)
      have q3 := hb (o + j)
      rw [if_pos rfl, qle (iR_s (by omega) (by omega)) (iR_s (by omega) (by omega)), if_neg (show ¬ l ≤ j by omega), zi_1, iz_add, pro_g hp (by omega) (by omega), Option.bind_some, iz_add, pro_g hp (by omega) (by omega), Option.bind_some, (bu_e h).2.1, Option.bind_some, iz_add, bu_g h hn (by omega) (by omega), Option.bind_some, qeq (iR_s (by omega) (by omega)) (iR_s (by omega) (by omega))]
      unfold f_Buffer_findData_71
      rw [Bool.true_and]
      show _ = kx (some pa) x2 (iz o) (iz l) (iz r) (iz (bI (decide (q (q (r + 1) + j) = b (o + j)) && eqB (fun j => q (q (r + 1) + j)) (fun j => b (o + j)) m (j + 1))))
      rw [zi_1, iz_add]
      by_cases c : q (q (r + 1) + j) = b (o + j)
      · rw [if_pos c, decide_eq_true c]
        exact ih fu (j + 1) true (fun _ => hu') (by omega) (by omega) (by omega)
      · rw [if_neg c, decide_eq_false c]
        exact ih fu (j + 1) false (fun w => by cases w) (by omega) (by omega) (by omega)
theorem cl_fdL (h : BU μ X n b) (hn : n ≤ 256) (hb : Byt b) (hq : Byt q) {pa : Nat} (hp : PRo μ pa q) {o l : Int} (h0 : 0 ≤ o) (hl : 0 ≤ l) (ho : o + l ≤ n) : ∀ (M fu : Nat) (r t : Int), M < fu → 8 ≤ r → r + 4 * M = t → t ≤ 100 → (∀ k : Nat, k < M → 8 ≤ q (r + 4 * k + 1) ∧ q (r + 4 * k + 1) + q (r + 4 * k + 2) ≤ 256) → f_Buffer_findData_4 μ (X + 1) (fun (_ : Unit) => f_Buffer_findData_97 μ (X + 1)) fu (some pa) (iz t) (iz o) (iz l) (iz r) = some (iz (fdz b q o l M r)) := by
  intro M
  induction M with
  | zero =>
    intro fu r t hf hr ht h100 he
    obtain ⟨fu, rfl⟩ : ∃ m, fu = m + 1 := ⟨fu - 1, by omega⟩
    rw [f_Buffer_findData_4, qle (iR_s (by omega) (by omega)) (iR_s (by omega) (by omega)), if_pos (by omega)]
    rfl
  | succ M ih =>
    intro fu r t hf hr ht h100 he
    obtain ⟨fu, rfl⟩ : ∃ m, fu = m + 1 := ⟨fu - 1, by omega⟩
    have q2 := hq (r + 2)
    have q1 := hq (r + 1)
    have e0 := he 0 (by omega)
    rw [show r + 4 * ((0 : Nat) : Int) + 1 = r + 1 by omega, show r + 4 * ((0 : Nat) : Int) + 2 = r + 2 by omega] at e0
    have i1 := ih fu (r + 4) t (by omega) (by omega) (by omega) h100 (fun k hk => by
      have := he (k + 1) (by omega)
      rw [show r + 4 * ((k + 1 : Nat) : Int) + 1 = r + 4 + 4 * k + 1 by omega, show r + 4 * ((k + 1 : Nat) : Int) + 2 = r + 4 + 4 * k + 2 by omega] at this
      exact this)
    rw [f_Buffer_findData_4, qle (iR_s (by omega) (by omega)) (iR_s (by omega) (by omega)), if_neg (by omega), zi_2, iz_add, pro_g hp (by omega) (by omega), Option.bind_some, qeq (iR_s (by omega) (by omega)) (iR_s (by omega) (by omega))]
    unfold f_Buffer_findData_26
    have k79 : ∀ u : Bool, f_Buffer_findData_79 μ (X + 1) (f_Buffer_findData_4 μ (X + 1) (fun (_ : Unit) => f_Buffer_findData_97 μ (X + 1)) fu) (fun (_ : Unit) => f_Buffer_findData_97 μ (X + 1)) (some pa) (iz t) (iz o) (iz l) (iz r) (iz (bI u)) = some (iz (if u = true then q (r + 1) else fdz b q o l M (r + 4))) := by
      intro u
      unfold f_Buffer_findData_79
      rw [qbI, zi_4, iz_add, i1, zi_1, iz_add, pro_g hp (by omega) (by omega), Option.bind_some]
      cases u <;> rfl
    have I := fun (u : Bool) (hu : u = true → q (r + 1) + l ≤ 256) => cl_fdI h hn hb hq hp (fun y1 y2 y3 y4 y5 y6 => f_Buffer_findData_79 μ (X + 1) (f_Buffer_findData_4 μ (X + 1) (fun (_ : Unit) => f_Buffer_findData_97 μ (X + 1)) fu) (fun (_ : Unit) => f_Buffer_findData_97 μ (X + 1)) y1 y2 y3 y4 y5 y6) (x2 := iz t) h0 hl ho (r := r) (by omega) (by omega) l.toNat 4096 0 u hu (by omega) (by omega) (by omega)
    show _ = some (iz (if fdM b q o l r then q (r + 1) else fdz b q o l M (r + 4)))
    by_cases c : q (r + 2) = l
    · rw [if_pos c]
      have I1 := I true (fun _ => by omega)
      rw [show iz (bI true) = (1 : Int32) by rfl] at I1
      rw [zi_0, I1]
      rw [k79, Bool.true_and]
      by_cases c2 : eqB (fun j => q (q (r + 1) + j)) (fun j => b (o + j)) l.toNat 0 = true
      · rw [if_pos c2, if_pos ⟨c, c2⟩]
      · rw [if_neg c2, if_neg (fun w => c2 w.2)]
    · rw [if_neg c, if_neg (fun w => c w.1)]
      have I0 := I false (fun w => by cases w)
      rw [show iz (bI false) = iz 0 by rfl] at I0
      rw [zi_0, I0]
      rw [k79, Bool.false_and, if_neg (by decide)]
theorem cl_entL {z : Nat} (hz : X + 2 < z) (hk : OKB b n) (hn : n ≤ 256) (hb : Byt b) (kx : mM → Nat → Nat → Option Nat → Option (Option Nat × mM × Nat × Nat)) {zz ww : Nat} : ∀ (m fu k : Nat) (μ : mM), m < fu → (k : Int) + m = b 6 → BU μ X n b → (∃ f : Nat → Int32, μ z = some (.inl (0, 13, .inl f)) ∧ ∀ s : Nat, s < 13 → f s = iz (if hsE b s k 0 = true then en b s else 0)) → ∃ μ', f_Buffer_plainForm_7 (X + 1) kx fu μ zz ww (some z) (iz k) = kx μ' zz ww (some z) ∧ (∃ f : Nat → Int32, μ' z = some (.inl (0, 13, .inl f)) ∧ ∀ s : Nat, s < 13 → f s = iz (if 0 ≤ en b s then en b s else 0)) ∧ ∀ c, c ≠ z → μ' c = μ c := by
  have h6 := hk.2.2.2.2.2.1
  intro m
  induction m with
  | zero =>
    intro fu k μ hf hm h hF
    obtain ⟨fu, rfl⟩ : ∃ m, fu = m + 1 := ⟨fu - 1, by omega⟩
    refine ⟨μ, ?_, ?_, fun _ _ => rfl⟩
    · rw [f_Buffer_plainForm_7, (bu_e h).2.1, Option.bind_some, zi_6, bu_g h hn (by omega) (by omega), Option.bind_some, qle (iR_s (by omega) (by omega)) (iR_s (by omega) (by omega)), if_pos (by omega)]
    · obtain ⟨f, f1, f2⟩ := hF
      refine ⟨f, f1, fun s hs => ?_⟩
      rw [f2 s hs]
      have : k = (b 6).toNat := by omega
      rw [this]
      by_cases c : 0 ≤ en b (s : Int)
      · rw [if_pos c, if_pos ((ok_en hk).mpr c)]
      · rw [if_neg c, if_neg (fun w => c ((ok_en hk).mp w))]
  | succ m ih =>
    intro fu k μ hf hm h hF
    obtain ⟨fu, rfl⟩ : ∃ m, fu = m + 1 := ⟨fu - 1, by omega⟩
    obtain ⟨f, f1, f2⟩ := hF
    have hE := (hk.2.2.2.2.2.2.2.1 k (by omega) (by omega)).1
    have s1 : msI μ (some z) (iz (b (8 + 4 * k))) (iz (8 + 4 * k)) = some (mup μ z (.inl (0, 13, .inl (upd f (b (8 + 4 * k)).toNat (iz (8 + 4 * k)))))) := by
      rw [iz_nat (show 0 ≤ b (8 + 4 * (k : Int)) by omega)]
      exact msI_i f1 (by omega) (by decide)
    have hB : BU (mup μ z (.inl (0, 13, .inl (upd f (b (8 + 4 * (k : Int))).toNat (iz (8 + 4 * k)))))) X n b := by
      obtain ⟨g1, g, g2, g3⟩ := h
      exact ⟨(mup_ne _ _ (by omega)).trans g1, g, (mup_ne _ _ (by omega)).trans g2, g3⟩
    obtain ⟨m2, s2, F2, o2⟩ := ih fu (k + 1) _ (by omega) (by omega) hB ⟨_, mup_self _ _ _, fun s hs => by
      unfold upd
      by_cases c : s = (b (8 + 4 * (k : Int))).toNat
      · have es : (s : Int) = b (8 + 4 * (k : Int)) := by omega
        rw [if_pos c, es, ok_k hk (by omega) (by omega), if_pos ((hsE_i _ _ _ _).mpr ⟨k, by omega, by omega, rfl⟩)]
      · rw [if_neg c, f2 s hs]
        have e : hsE b (s : Int) (k + 1) 0 = true ↔ hsE b (s : Int) k 0 = true := by
          rw [hsE_i, hsE_i]
          constructor
          · rintro ⟨j, j0, j1, j2⟩
            by_cases cj : j = k
            · rw [cj] at j2; omega
            · exact ⟨j, j0, by omega, j2⟩
          · rintro ⟨j, j0, j1, j2⟩
            exact ⟨j, j0, by omega, j2⟩
        by_cases c2 : hsE b (s : Int) k 0 = true
        · rw [if_pos c2, if_pos (e.mpr c2)]
        · rw [if_neg c2, if_neg (fun w => c2 (e.mp w))]⟩
    refine ⟨m2, ?_, F2, fun c hc => (o2 c hc).trans (mup_ne _ _ hc)⟩
    rw [f_Buffer_plainForm_7, (bu_e h).2.1, Option.bind_some, zi_6, bu_g h hn (by omega) (by omega), Option.bind_some, qle (iR_s (by omega) (by omega)) (iR_s (by omega) (by omega)), if_neg (by omega), Option.bind_some, zi_8, zi_4, iz_mul, iz_add, bu_g h hn (by omega) (by omega), Option.bind_some, s1, Option.bind_some, zi_1, iz_add]
    exact s2
end CPF
