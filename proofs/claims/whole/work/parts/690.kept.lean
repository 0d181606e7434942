/-! Another profile is kept: what stood before stays. -/
theorem ftz_R {b : Int → Int} {n : Int} (hb : Byt b) : 0 ≤ ftz b n ∧ ftz b n ≤ 10000 := by
  unfold ftz
  by_cases c1 : n < 12 ∨ n % 4 ≠ 0 ∨ 256 * b 0 + b 1 ≠ n
  · rw [if_pos c1]; omega
  · rw [if_neg c1]
    by_cases d6 : 1 ≤ b 6 ∧ b 6 ≤ 12 ∧ 8 + 4 * b 6 ≤ n
    · have := efL_R hb (n := n) (b 6).toNat 0 (by omega) (by omega)
      repeat' split
      all_goals omega
    · rw [if_pos d6]
      repeat' split
      all_goals omega
def KE (K K' : Int → Int) (np : Nat) : Prop := ∀ p : Int, 0 ≤ p → p < np → bp K p = bp K' p
section KCG
variable {K K' : Int → Int} {np : Nat}
theorem pf_cg {q : Pz} (h : bp K q.2.1 = bp K' q.2.1) (h7 : q.1 = 7 → bp K q.2.2.1 = bp K' q.2.2.1) : pf K q = pf K' q := by
  unfold pf
  funext c
  unfold pfz
  rw [h]
  by_cases e : q.1 = 7
  · rw [h7 e]
  · repeat' split
    all_goals first | rfl | (exfalso; omega)
theorem runz_cg : ∀ (l : List Pz) (c : Int → Int), (∀ q ∈ l, pf K q = pf K' q) → runz K l c = runz K' l c
  | [], _, _ => rfl
  | q :: l, c, h => by
    show runz K l (pf K q c) = runz K' l (pf K' q c)
    rw [h q List.mem_cons_self]
    exact runz_cg l _ (fun x hx => h x (List.mem_cons_of_mem _ hx))
theorem crl_mem {b : Int → Int} {kd p : Int} {q : Pz} (h : q ∈ crl' b kd p) : q = (kd, p, 0, 0) := by
  unfold crl' at h
  split at h
  · cases h
  · simpa using h
theorem mtl_mem {b : Int → Int} {kd p : Int} {q : Pz} (h : q ∈ mtl b kd p) : q = (kd, p, 0, 0) := by
  unfold mtl at h
  split at h
  · cases h
  · simpa using h
theorem fth_mem {b : Int → Int} {p it : Int} {q : Pz} (h : q ∈ fth b p it) : q.2.1 = p ∧ q.1 ≠ 7 := by
  unfold fth at h
  split at h
  · rcases List.mem_append.mp h with w | w
    · rw [crl_mem w]; exact ⟨rfl, fun q => by simp at q⟩
    · rw [List.mem_singleton.mp w]; exact ⟨rfl, fun q => by simp at q⟩
  · split at h
    · rw [List.mem_singleton.mp h]; exact ⟨rfl, fun q => by simp at q⟩
    · rcases List.mem_append.mp h with w | w
      · rw [crl_mem w]; exact ⟨rfl, fun q => by simp at q⟩
      · rw [mtl_mem w]; exact ⟨rfl, fun q => by simp at q⟩
theorem bck_mem {b : Int → Int} {p it : Int} {q : Pz} (h : q ∈ bck b p it) : q.2.1 = p ∧ q.1 ≠ 7 := by
  unfold bck at h
  split at h
  · rcases List.mem_append.mp h with w | w
    · rw [List.mem_singleton.mp w]; exact ⟨rfl, fun q => by simp at q⟩
    · rw [crl_mem w]; exact ⟨rfl, fun q => by simp at q⟩
  · split at h
    · rw [List.mem_singleton.mp h]; exact ⟨rfl, fun q => by simp at q⟩
    · rcases List.mem_append.mp h with w | w
      · rw [mtl_mem w]; exact ⟨rfl, fun q => by simp at q⟩
      · rw [crl_mem w]; exact ⟨rfl, fun q => by simp at q⟩
theorem blp_mem {b : Int → Int} {p : Int} {q : Pz} (h : q ∈ blp b p) : q.2.1 = p ∧ q.1 ≠ 7 := by
  unfold blp at h
  split at h
  · rw [List.mem_singleton.mp h]; exact ⟨rfl, fun q => by simp at q⟩
  · cases h
theorem blz_cg {p it : Int} (h : bp K p = bp K' p) : blz K p it = blz K' p it := by
  unfold blz
  rw [← h]
  rw [runz_cg (K := K) (K' := K') _ _ (fun q hq => ?_)]
  have e : q.2.1 = p ∧ q.1 ≠ 7 := by
    rcases List.mem_append.mp hq with w | w
    · exact fth_mem w
    · exact blp_mem w
  exact pf_cg (by rw [e.1]; exact h) (fun w => absurd w e.2)
theorem psz_cg {a b it : Int} {bk : Bool} (ha : bp K a = bp K' a) (hb : bp K b = bp K' b) : psz K a b it bk = psz K' a b it bk := by
  unfold psz adj ndz scz drk
  rw [blz_cg ha, blz_cg hb, ha, hb]
theorem psz_mem {a b it : Int} {bk : Bool} {q : Pz} (h : q ∈ psz K a b it bk) : (q.2.1 = a ∨ q.2.1 = b) ∧ (q.1 = 7 → q.2.2.1 = b) := by
  unfold psz at h
  rcases List.mem_append.mp h with w | w
  · have := fth_mem w
    exact ⟨Or.inl this.1, fun q => absurd q this.2⟩
  · rcases List.mem_append.mp w with w | w
    · unfold adj at w
      split at w
      · rcases List.mem_append.mp w with w | w
        · have := blp_mem w
          exact ⟨Or.inl this.1, fun q => absurd q this.2⟩
        · rw [List.mem_singleton.mp w]
          refine ⟨Or.inl rfl, fun q => ?_⟩
          show (if scz K a b it = true then b else _) = b
          by_cases c : scz K a b it = true
          · rw [if_pos c]
          · change (if scz K a b it = true then (7 : Int) else 8) = 7 at q
            rw [if_neg c] at q
            omega
      · cases w
    · rcases List.mem_append.mp w with w | w
      · unfold cnv at w
        split at w
        · cases w
        · rw [List.mem_singleton.mp w]
          refine ⟨Or.inr rfl, fun q => ?_⟩
          exfalso
          change (if _ then (6 : Int) else 5) = 7 at q
          split at q <;> omega
      · have := bck_mem w
        exact ⟨Or.inr this.1, fun q => absurd q this.2⟩
theorem pok_cg {a b it : Int} {bk : Bool} (ha : bp K a = bp K' a) (hb : bp K b = bp K' b) (h : POK K a b it bk) : POK K' a b it bk := by
  unfold POK at h ⊢
  rw [← blz_cg ha, ← blz_cg hb, ← ha, ← hb]
  exact h
variable {nl : Nat} {G : Nat → Lz} {C : Nat → List Pz}
def GRn (np nl : Nat) (G : Nat → Lz) : Prop := ∀ k, k < nl → -1 ≤ (G k).1 ∧ (G k).1 < k ∧ (0 ≤ (G k).2.1 ∧ (G k).2.1 < np) ∧ (0 ≤ (G k).2.2.1 ∧ (G k).2.2.1 < np) ∧ iR (G k).2.2.2.1
theorem ch_cg (hE : KE K K' np) (hG : GRn np nl G) (h : CH K nl G C) : CH K' nl G C := by
  intro k hk
  obtain ⟨h1, h2, h3⟩ := h k hk
  obtain ⟨g1, g2, g3, g4, g5⟩ := hG k hk
  have ea := hE _ g3.1 g3.2
  have eb := hE _ g4.1 g4.2
  refine ⟨?_, h2, pok_cg ea eb h3⟩
  rw [h1]
  unfold psg
  rw [psz_cg ea eb]
theorem ch_pf (hE : KE K K' np) (hG : GRn np nl G) (h : CH K nl G C) : ∀ k : Nat, k < nl → ∀ q ∈ C k, pf K q = pf K' q := by
  intro k
  induction k using Nat.strongRecOn with
  | ind k ih =>
    intro hk q hq
    obtain ⟨h1, -, -⟩ := h k hk
    obtain ⟨g1, g2, g3, g4, g5⟩ := hG k hk
    rw [h1] at hq
    rcases List.mem_append.mp hq with w | w
    · unfold chl at w
      split at w
      · cases w
      · exact ih _ (by omega) (by omega) q w
    · obtain ⟨m1, m2⟩ := psz_mem w
      refine pf_cg ?_ (fun e => by rw [m2 e]; exact hE _ g4.1 g4.2)
      rcases m1 with e | e
      · rw [e]; exact hE _ g3.1 g3.2
      · rw [e]; exact hE _ g4.1 g4.2
theorem lks_cg {μ φ : mM} {F : Nat → Int} {Pa Lk : Nat → Nat} {L : Nat → Int64} (hE : KE K K' np) (hG : GRn np nl G) (h : CH K nl G C) (hL : LKS μ φ K nl G C F Pa Lk L) : LKS μ φ K' nl G C F Pa Lk L := by
  intro k hk
  obtain ⟨row, la, l1, l2, l3⟩ := hL k hk
  have hp := ch_pf hE hG h k hk
  refine ⟨row, la, l1, ?_, ?_⟩
  · obtain ⟨f, f1, f2⟩ := l2
    refine ⟨f, f1, fun j q hq => ?_⟩
    obtain ⟨a, a1, a2, a3⟩ := f2 j q hq
    refine ⟨a, a1, ?_, a3⟩
    rw [← hp q (List.mem_of_getElem? hq)]
    exact a2
  · rcases l3 with w | ⟨x, y, t, w1, w2, w3, w4, w5⟩
    · exact Or.inl w
    · refine Or.inr ⟨x, y, t, w1, w2, w3, w4, ?_⟩
      rw [w5, runz_cg (K := K) (K' := K') _ _ hp]
theorem pr_cg {φ : mM} {P : Nat} {p el : Int} {n : Nat} {q : Int → Int} (e : bp K p = bp K' p) (h : PR φ P K p el n q) : PR φ P K' p el n q := by
  unfold PR at h ⊢
  rw [← e]
  refine ⟨h.1, ?_⟩
  have : (fun it => blz K' p it) = fun it => blz K p it := by
    funext it
    exact (blz_cg e).symm
  rw [this]
  exact h.2
end KCG
/-- the reference's kept bytes after a parse -/
def cpA (A : Nat → Nat → Int32) (n np : Nat) : Nat → Nat → Int32 := va_up A 2 (fun i => if 256 * np ≤ i ∧ i < 256 * np + n then A 0 (i - 256 * np) else A 2 i)
section CPA
variable {A : Nat → Nat → Int32} {S : Nat → Int32} {n np : Nat} {bf : Int → Int}
theorem cp_KE (hnp : np < 6) (hn : n ≤ 256) : KE (kp A) (kp (cpA A n np)) np := by
  intro p p0 p1
  funext i
  unfold bp
  by_cases c : 0 ≤ i ∧ i < 256
  · rw [if_pos c, if_pos c]
    unfold kp
    rw [if_pos (by omega), if_pos (by omega)]
    unfold cpA va_up
    rw [if_pos rfl, if_neg (by omega)]
  · rw [if_neg c, if_neg c]
theorem cp_b (hb : Byt bf) (hA : BA A S n bf) (hnp : np < 6) (hn : n ≤ 256) {i : Int} (i0 : 0 ≤ i) (i1 : i < n) : bp (kp (cpA A n np)) np i = bf i := by
  have q := hb i
  rw [bp_i (by omega) (by omega)]
  unfold kp
  rw [if_pos (by omega)]
  unfold cpA va_up
  rw [if_pos rfl, if_pos (by omega), show (256 * (np : Int) + i).toNat - 256 * np = i.toNat by omega, hA.2 _ (by omega), Int.toNat_of_nonneg i0, iz_toInt (iR_s (by omega) (by omega))]
theorem cp_KA (hb : Byt bf) (hA : BA A S n bf) (hk : KA A) (hn : n ≤ 256) : KA (cpA A n np) := by
  intro i hi
  unfold cpA va_up
  rw [if_pos rfl]
  by_cases c : 256 * np ≤ i ∧ i < 256 * np + n
  · have q := hb ((i - 256 * np : Nat) : Int)
    rw [if_pos c, hA.2 _ (by omega), iz_toInt (iR_s (by omega) (by omega))]
    exact q
  · rw [if_neg c]
    exact hk i hi
theorem bp_B (hk : KA A) (p : Int) : Byt (bp (kp A) p) := by
  intro i
  unfold bp
  by_cases c : 0 ≤ i ∧ i < 256
  · rw [if_pos c]
    unfold kp
    by_cases d : 0 ≤ 256 * p + i ∧ 256 * p + i < 1536
    · rw [if_pos d]
      exact hk _ (by omega)
    · rw [if_neg d]; omega
  · rw [if_neg c]; omega
theorem rm_cpyL {M : Nat} {L : Nat → Int64} (hA : BA A S n bf) (hn : n ≤ 256) (hS3 : S 3 = nI np) (hnp : np < 6) (kx : mM → Option (Int32 × mM)) : ∀ (m fu i : Nat) (μ : mM) (g : Nat → Int32), m < fu → i + m = n → RB μ M (va_up A 2 g) S L → (∀ j, g j = if 256 * np ≤ j ∧ j < 256 * np + i then A 0 (j - 256 * np) else A 2 j) → ∃ μ', f_Mo_parse_26 M kx fu μ (iz i) = kx μ' ∧ RB μ' M (cpA A n np) S L ∧ Out M μ μ' := by
  intro m
  induction m with
  | zero =>
    intro fu i μ g hf hi h hg
    obtain ⟨fu, rfl⟩ : ∃ m, fu = m + 1 := ⟨fu - 1, by omega⟩
    obtain rfl : i = n := by omega
    refine ⟨μ, ?_, ?_, Out.rf⟩
    · rw [f_Mo_parse_26, (rb_S h).2.2.2, Option.bind_some, hA.1, nI_iz, qle (iR_s (by omega) (by omega)) (iR_s (by omega) (by omega)), if_pos (by omega)]
    · have e : g = fun j => if 256 * np ≤ j ∧ j < 256 * np + i then A 0 (j - 256 * np) else A 2 j := funext hg
      rw [e] at h
      exact h
  | succ m ih =>
    intro fu i μ g hf hi h hg
    obtain ⟨fu, rfl⟩ : ∃ m, fu = m + 1 := ⟨fu - 1, by omega⟩
    have c0 := (rb_c0 h).1
    have c2 := (rb_c0 h).2
    have e0 : va_up A 2 g 0 = A 0 := by simp [va_up]
    have e2 : va_up A 2 g 2 = g := by simp [va_up]
    rw [e0] at c0
    rw [e2] at c2
    have s1 : msI μ (some (M + 2)) (nI (256 * np + i)) (A 0 i) = some (mup μ (M + 2) (.inl (0, 1536, .inl (upd g (256 * np + i) (A 0 i))))) := msI_i c2 (by omega) (by decide)
    have r1 := rb_u2 h (upd g (256 * np + i) (A 0 i))
    have eu : va_up (va_up A 2 g) 2 (upd g (256 * np + i) (A 0 i)) = va_up A 2 (upd g (256 * np + i) (A 0 i)) := by
      funext j
      unfold va_up
      split <;> simp_all
    rw [eu] at r1
    obtain ⟨m2, s2, r2, o2⟩ := ih fu (i + 1) _ _ (by omega) (by omega) r1 (fun j => by
      unfold upd
      by_cases c : j = 256 * np + i
      · rw [if_pos c, if_pos (by omega), show j - 256 * np = i by omega]
      · rw [if_neg c, hg j]
        by_cases d : 256 * np ≤ j ∧ j < 256 * np + i
        · rw [if_pos d, if_pos (by omega)]
        · rw [if_neg d, if_neg (by omega)])
    have o1 : Out M μ (mup μ (M + 2) (.inl (0, 1536, .inl (upd g (256 * np + i) (A 0 i))))) := fun b hb => mup_ne _ _ (by omega)
    refine ⟨m2, ?_, r2, o1.tr o2⟩
    rw [f_Mo_parse_26, (rb_S h).2.2.2, Option.bind_some, hA.1, nI_iz n, qle (iR_s (by omega) (by omega)) (iR_s (by omega) (by omega)), if_neg (by omega), (rb_f0 h).2, Option.bind_some, (rb_S h).2.1, Option.bind_some, hS3, (rb_f0 h).1, Option.bind_some, ← nI_iz i, mgI_i c0 (by omega) (by decide), Option.bind_some, nI_iz np, zi_256, iz_mul, nI_iz i, iz_add, show 256 * (np : Int) + i = ((256 * np + i : Nat) : Int) by omega, ← nI_iz (256 * np + i), s1, Option.bind_some, zi_1, iz_add, show (i : Int) + 1 = ((i + 1 : Nat) : Int) by omega]
    exact s2
theorem rm_parse {μ : mM} {M : Nat} {L : Nat → Int64} (h : RB μ M A S L) (hA : BA A S n bf) (hn : n ≤ 256) (hb : Byt bf) (hS3 : S 3 = nI np) (hnp : np ≤ 6) : (np = 6 → f_Mo_parse M μ = some (iz (-8), μ)) ∧ (np < 6 → ftz bf n ≠ 0 → f_Mo_parse M μ = some (iz (-(ftz bf n)), μ)) ∧ (np < 6 → ftz bf n = 0 → ∃ μ', f_Mo_parse M μ = some (nI np, μ') ∧ RB μ' M (cpA A n np) (va_up S 3 (nI (np + 1))) L ∧ Out M μ μ') := by
  have fR : 0 ≤ ftz bf n ∧ ftz bf n ≤ 10000 := ftz_R hb
  unfold f_Mo_parse
  rw [(rb_S h).2.1, Option.bind_some, hS3, nI_iz, zi_6, qeq (iR_s (by omega) (by omega)) (iR_s (by omega) (by omega)), zi_m8, rm_fault h hA hn hb, Option.bind_some, zi_0, qle (iR_s (by omega) (by omega)) (iR_s (by omega) (by omega)), iz_neg]
  refine ⟨fun c => by rw [if_pos (by omega)], fun c d => by rw [if_neg (by omega), if_neg (by omega)], fun c d => ?_⟩
  obtain ⟨m1, s1, r1, o1⟩ := rm_cpyL (M := M) (L := L) hA hn hS3 c (fun μ => f_Mo_parse_61 M μ) n 4096 0 μ (A 2) (by omega) (by omega) (by
    have e : va_up A 2 (A 2) = A := by
      funext j
      unfold va_up
      split
      · rename_i q; rw [q]
      · rfl
    rw [e]; exact h) (fun j => by rw [if_neg (by omega)])
  obtain ⟨m2, s2, r2, o2⟩ := rb_w3 r1 (nI (np + 1))
  refine ⟨m2, ?_, r2, o1.tr o2⟩
  rw [if_neg (by omega), if_pos (by omega)]
  refine (show _ = _ from s1).trans ?_
  show f_Mo_parse_61 M m1 = _
  unfold f_Mo_parse_61
  rw [(rb_S r1).2.1, Option.bind_some, hS3, nI_s, s2, Option.bind_some, (rb_S r2).2.1, Option.bind_some]
  have e3 : va_up S 3 (nI (np + 1)) 3 = nI (np + 1) := by simp [va_up]
  rw [e3, nI_iz (np + 1), zi_1, iz_sub, show ((np + 1 : Nat) : Int) - 1 = np by omega]
end CPA
