/-! The class makes a link. -/
theorem mup_mup (μ : mM) (a : Nat) (e e' : mE) : mup (mup μ a e) a e' = mup μ a e' := by
  funext b
  unfold mup
  split <;> rfl
section LNW
variable {φ μ : mM} {X y w : Nat}
def lk0 : List Value := [.null, .null, .null, .int 0, .int 0, .null, .null, .long 0, .long 0]
theorem lk_new {f7 : Nat → Option Nat} {ads : List Nat} {base : Option Nat} {P Q R : Nat} {it : Int} {bk : Bool} (h7 : μ (X + 7) = some (.inl (5, 32, .inr (.inr (.inr (.inr f7)))))) (hf : ∀ (k a : Nat), ads[k]? = some a → f7 k = some a) (hn : ads.length ≤ 24) (hy : y ≠ X + 7) (hy1 : y + 1 ≠ X + 7) (hp : ∀ a ∈ ads, a ≠ y ∧ a ≠ y + 1 ∧ ∃ ci fs, μ a = some (.inr (ci, fs)) ∧ [0, 3, 4, 5, 6, 8].contains ci = true) (hb : base = none ∧ R = P ∨ ∃ bl, base = some bl ∧ bl ≠ y ∧ mfA μ (some bl) [7] 5 = some (some R) ∧ ∀ m : mM, m bl = μ bl → mfA m (some bl) [7] 5 = some (some R)) : ∃ μ' g, f_Link_init y (mup μ y (.inr (7, lk0))) (y + 1) w base (some P) (some Q) (iz it) (iz (bI bk)) (some (X + 7)) (nI ads.length) = some (μ', y + 2, w + ads.length) ∧ μ' y = some (.inr (7, [va_rf base, .ref P, .ref Q, .int (iz it), .int (iz (bI bk)), .ref R, .ref (y + 1), .long (jz (-1)), .long (jz (-1))])) ∧ μ' (y + 1) = some (.inl (5, ads.length, .inr (.inr (.inr (.inr g))))) ∧ (∀ (k a : Nat), ads[k]? = some a → g k = some a) ∧ ∀ c, c ≠ y → c ≠ y + 1 → μ' c = μ c := by
  obtain ⟨fb, efb⟩ : ∃ fb : List Value, fb = [va_rf base, .ref P, .ref Q, .int (iz it), .int (iz (bI bk)), .ref R, .ref (y + 1), .long (jz (-1)), .long (jz (-1))] := ⟨_, rfl⟩
  -- the copying loop
  have loop : ∀ (j fu i : Nat) (m : mM) (g : Nat → Option Nat), j < fu → i + j = ads.length → m y = some (.inr (7, fb)) → m (y + 1) = some (.inl (5, ads.length, .inr (.inr (.inr (.inr g))))) → (∀ (k a : Nat), k < i → ads[k]? = some a → g k = some a) → (∀ c, c ≠ y → c ≠ y + 1 → m c = μ c) → ∃ μ' g', f_Link_init_73 y (fun μ z w => f_Link_init_98 y μ z w) fu m (y + 2) (w + ads.length) (some (X + 7)) (nI ads.length) (nI i) = some (μ', y + 2, w + ads.length) ∧ μ' y = some (.inr (7, fb)) ∧ μ' (y + 1) = some (.inl (5, ads.length, .inr (.inr (.inr (.inr g'))))) ∧ (∀ (k a : Nat), ads[k]? = some a → g' k = some a) ∧ ∀ c, c ≠ y → c ≠ y + 1 → μ' c = μ c := by
    intro j
    induction j with
    | zero =>
      intro fu i m g hfu hi m1 m2 hg ho
      obtain ⟨fu, rfl⟩ : ∃ m, fu = m + 1 := ⟨fu - 1, by omega⟩
      refine ⟨m, g, ?_, m1, m2, fun k a hk => hg k a (by have := (List.getElem?_eq_some_iff.mp hk).1; omega) hk, ho⟩
      rw [f_Link_init_73, if_pos ((nIz_le (by omega) (by omega)).mpr (by omega))]
      rfl
    | succ j ih =>
      intro fu i m g hfu hi m1 m2 hg ho
      obtain ⟨fu, rfl⟩ : ∃ m, fu = m + 1 := ⟨fu - 1, by omega⟩
      have hil : i < ads.length := by omega
      have hqa : ads[i]? = some ads[i] := List.getElem?_eq_getElem hil
      obtain ⟨p1, p2', ci, fs, p3, p4⟩ := hp _ (List.getElem_mem hil)
      have e6 : mfA m (some y) [7] 6 = some (some (y + 1)) := mfA_i (v := some (y + 1)) m1 rfl (by rw [efb]; rfl)
      have e7 : mgA m (some (X + 7)) (nI i) = some (some ads[i]) := by
        rw [mgA_i (k := 2) ((ho _ hy.symm hy1.symm).trans h7) (by decide) (by omega) (by decide), hf i _ hqa]
      have s1 : msA m (some (y + 1)) (nI i) (some ads[i]) = _ := msA_i (k := 2) m2 (by decide) hil (by omega) ((ho _ p1 p2').trans p3) p4
      obtain ⟨m3, g3, t1, t2, t3, t4, t5⟩ := ih fu (i + 1) (mup m (y + 1) (.inl (5, ads.length, .inr (.inr (.inr (.inr (va_up g i (some ads[i])))))))) (va_up g i (some ads[i])) (by omega) (by omega) ((mup_ne _ _ (by omega)).trans m1) (mup_self _ _ _) (fun k a hk hka => by
        by_cases e : k = i
        · subst e
          rw [hqa] at hka
          cases hka
          simp [va_up]
        · simp [va_up, e, hg k a (by omega) hka]) (fun c c1 c2 => (mup_ne _ _ c2).trans (ho c c1 c2))
      refine ⟨m3, g3, ?_, t2, t3, t4, t5⟩
      rw [f_Link_init_73, if_neg (fun q => by have := (nIz_le (by omega) (by omega)).mp q; omega), e6, Option.bind_some, e7, Option.bind_some, s1, Option.bind_some, nI_s]
      exact t1
  have st : ∀ (fs : List Value) (k : Nat) (v : Value), k < fs.length → mpV (mup μ y (.inr (7, fs))) (some y) [7] k v = some (mup μ y (.inr (7, fs.set k v))) := by
    intro fs k v hk
    rw [mpV_i (mup_self _ _ _) rfl hk, mup_mup]
  obtain ⟨fa, efa⟩ : ∃ fa : List Value, fa = [va_rf base, .ref P, .ref Q, .int (iz it), .int (iz (bI bk)), .null, .null, .long (jz (-1)), .long (jz (-1))] := ⟨_, rfl⟩
  have hz : iz (bI bk) = 0 ∨ iz (bI bk) = 1 := by
    cases bk
    · exact Or.inl rfl
    · exact Or.inr rfl
  have hw : (nI ads.length).toNatClampNeg = ads.length := nI_clamp (by omega)
  obtain ⟨μ', g, l1, l2, l3, l4, l5⟩ := loop ads.length 4096 0 (mup (mup (mup μ y (.inr (7, fa.set 5 (.ref R)))) (y + 1) (.inl (5, ads.length, .inr (.inr (.inr (.inr (fun _ => none))))))) y (.inr (7, fb))) (fun _ => none) (by omega) (by omega) (mup_self _ _ _) ((mup_ne _ _ (by omega)).trans (mup_self _ _ _)) (fun k a hk => by omega) (fun c c1 c2 => by rw [mup_ne _ _ c1, mup_ne _ _ c2, mup_ne _ _ c1])
  have h58 : f_Link_init_58 y (mup μ y (.inr (7, fa))) (y + 1) w (some (X + 7)) (nI ads.length) (some y) (some R) = some (μ', y + 2, w + ads.length) := by
    unfold f_Link_init_58 mpA
    rw [st fa 5 _ (by rw [efa]; simp), Option.bind_some]
    unfold mna
    rw [hw, if_neg (fun q => by rcases q with q | q; rw [zi_0, nI_iz] at q; have := (iz_lt (iR_s (by omega) (by omega)) (iR_s (by omega) (by omega))).mp q; omega; omega), Option.bind_some]
    apply mmV_i (by omega) (by omega)
    · have e6 : mpV (mup (mup μ y (.inr (7, fa.set 5 (va_rf (some R))))) (y + 1) (.inl (5, mblank 5 ads.length))) (some y) [7] 6 (va_rf (some (y + 1))) = some (mup (mup (mup μ y (.inr (7, fa.set 5 (va_rf (some R))))) (y + 1) (.inl (5, mblank 5 ads.length))) y (.inr (7, fb))) := by
        rw [mpV_i (show (mup (mup μ y (.inr (7, fa.set 5 (va_rf (some R))))) (y + 1) (.inl (5, mblank 5 ads.length))) y = some (.inr (7, fa.set 5 (va_rf (some R)))) from (mup_ne _ _ (by omega)).trans (mup_self _ _ _)) rfl (by rw [efa]; simp), efa, efb]
        rfl
      rw [e6, Option.bind_some]
      exact l1
    · exact Nat.le_refl _
    · exact Nat.le_refl _
  have hpre : ∀ (r : Option (mM × Nat × Nat)), (if base = none then f_Link_init_58 y (mup μ y (.inr (7, fa))) (y + 1) w (some (X + 7)) (nI ads.length) (some y) (some P) else (mfA (mup μ y (.inr (7, fa))) base [7] 5).bind fun v8 => f_Link_init_58 y (mup μ y (.inr (7, fa))) (y + 1) w (some (X + 7)) (nI ads.length) (some y) v8) = some (μ', y + 2, w + ads.length) := by
    intro _
    rcases hb with ⟨e1, e2⟩ | ⟨bl, e1, e2, e3, e4⟩
    · rw [if_pos e1, ← e2]
      exact h58
    · rw [if_neg (by rw [e1]; simp), e1, e4 _ (mup_ne _ _ e2), Option.bind_some]
      exact h58
  refine ⟨μ', g, ?_, by rw [l2, efb], l3, l4, l5⟩
  unfold f_Link_init
  apply mmV_i (Nat.le_refl _) (Nat.le_refl _)
  · unfold mpJ mpA mpI mpZ
    rw [st lk0 7 _ (by decide), Option.bind_some, st _ 8 _ (by decide), Option.bind_some, st _ 0 _ (by decide), Option.bind_some, st _ 1 _ (by simp [lk0]), Option.bind_some, st _ 2 _ (by simp [lk0]), Option.bind_some, st _ 3 _ (by simp [lk0]), Option.bind_some, if_pos hz, st _ 4 _ (by simp [lk0]), Option.bind_some]
    have ef : (((((((lk0.set 7 (.long (-1))).set 8 (.long (-1))).set 0 (va_rf base)).set 1 (va_rf (some P))).set 2 (va_rf (some Q))).set 3 (.int (iz it))).set 4 (.int (iz (bI bk)))) = fa := by
      rw [efa]
      rfl
    rw [ef]
    exact hpre none
  · show y + 1 ≤ y + 2
    omega
  · show w ≤ w + ads.length
    omega
end LNW
