/-! My memory: a function from addresses to cells; an array names its kind by a number, an object its class by its place in mcl. Operations with Option (none: the machine would throw). -/
abbrev mE : Type := (Nat × vp_A) ⊕ (Nat × List Value)
abbrev mM : Type := Nat → Option mE
def mup (μ : mM) (a : Nat) (e : mE) : mM := fun b => if b = a then some e else μ b
theorem mup_self (μ : mM) (a : Nat) (e : mE) : mup μ a e a = some e := by simp [mup]
theorem mup_ne (μ : mM) {a b : Nat} (e : mE) (h : b ≠ a) : mup μ a e b = μ b := by simp [mup, h]
-- arrays: 0 int, 1 long, 2 boolean, 3 .. references
def mgI (μ : mM) (r : Option Nat) (i : Int32) : Option Int32 := match r with
  | none => none
  | some a => match μ a with
    | some (.inl (0, n, .inl f)) => if i < 0 ∨ n ≤ i.toNatClampNeg then none else some (f i.toNatClampNeg)
    | _ => none
def mgJ (μ : mM) (r : Option Nat) (i : Int32) : Option Int64 := match r with
  | none => none
  | some a => match μ a with
    | some (.inl (1, n, .inr (.inl f))) => if i < 0 ∨ n ≤ i.toNatClampNeg then none else some (f i.toNatClampNeg)
    | _ => none
def mgZ (μ : mM) (r : Option Nat) (i : Int32) : Option Int32 := match r with
  | none => none
  | some a => match μ a with
    | some (.inl (2, n, .inl f)) => if i < 0 ∨ n ≤ i.toNatClampNeg then none else some (f i.toNatClampNeg)
    | _ => none
def mgA (μ : mM) (r : Option Nat) (i : Int32) : Option (Option Nat) := match r with
  | none => none
  | some a => match μ a with
    | some (.inl (k + 3, n, .inr (.inr (.inr (.inr f))))) => if k < 5 then (if i < 0 ∨ n ≤ i.toNatClampNeg then none else some (f i.toNatClampNeg)) else none
    | _ => none
def ml (μ : mM) (r : Option Nat) : Option Int32 := match r with
  | none => none
  | some a => match μ a with
    | some (.inl (k, n, _)) => if k < 8 then some (Int32.ofNat n) else none
    | _ => none
def msI (μ : mM) (r : Option Nat) (i x : Int32) : Option mM := match r with
  | none => none
  | some a => match μ a with
    | some (.inl (0, n, .inl f)) => if i < 0 ∨ n ≤ i.toNatClampNeg then none else some (mup μ a (.inl (0, n, .inl (upd f i.toNatClampNeg x))))
    | _ => none
def msJ (μ : mM) (r : Option Nat) (i : Int32) (x : Int64) : Option mM := match r with
  | none => none
  | some a => match μ a with
    | some (.inl (1, n, .inr (.inl f))) => if i < 0 ∨ n ≤ i.toNatClampNeg then none else some (mup μ a (.inl (1, n, .inr (.inl (vp_updL f i.toNatClampNeg x)))))
    | _ => none
def msZ (μ : mM) (r : Option Nat) (i x : Int32) : Option mM := match r with
  | none => none
  | some a => match μ a with
    | some (.inl (2, n, .inl f)) => if x = 0 ∨ x = 1 then (if i < 0 ∨ n ≤ i.toNatClampNeg then none else some (mup μ a (.inl (2, n, .inl (upd f i.toNatClampNeg x))))) else none
    | _ => none
/-- which classes an array of references of kind k may hold -/
def mok (k : Nat) : List Nat := [[9], [7], [0, 3, 4, 5, 6, 8], [2], [5]].getD k []
def msA (μ : mM) (r : Option Nat) (i : Int32) (x : Option Nat) : Option mM := match r with
  | none => none
  | some a => match μ a with
    | some (.inl (k + 3, n, .inr (.inr (.inr (.inr f))))) =>
      if k < 5 then
        if i < 0 ∨ n ≤ i.toNatClampNeg then none else
          match x with
          | none => some (mup μ a (.inl (k + 3, n, .inr (.inr (.inr (.inr (va_up f i.toNatClampNeg none)))))))
          | some b => match μ b with
            | some (.inr (ci, _)) => if (mok k).contains ci then some (mup μ a (.inl (k + 3, n, .inr (.inr (.inr (.inr (va_up f i.toNatClampNeg (some b)))))))) else none
            | _ => none
      else none
    | _ => none
-- fields: of an object of one of the classes cs, the k-th
def mfV (μ : mM) (r : Option Nat) (cs : List Nat) (k : Nat) : Option Value := match r with
  | none => none
  | some a => match μ a with
    | some (.inr (ci, fs)) => if cs.contains ci then fs[k]? else none
    | _ => none
def vI (v : Value) : Option Int32 := match v with | .int x => some x | _ => none
def vJ (v : Value) : Option Int64 := match v with | .long x => some x | _ => none
def vA (v : Value) : Option (Option Nat) := match v with | .null => some none | .ref a => some (some a) | _ => none
def mfI (μ : mM) (r : Option Nat) (cs : List Nat) (k : Nat) : Option Int32 := (mfV μ r cs k).bind vI
def mfJ (μ : mM) (r : Option Nat) (cs : List Nat) (k : Nat) : Option Int64 := (mfV μ r cs k).bind vJ
def mfA (μ : mM) (r : Option Nat) (cs : List Nat) (k : Nat) : Option (Option Nat) := (mfV μ r cs k).bind vA
def mpV (μ : mM) (r : Option Nat) (cs : List Nat) (k : Nat) (v : Value) : Option mM := match r with
  | none => none
  | some a => match μ a with
    | some (.inr (ci, fs)) => if cs.contains ci ∧ k < fs.length then some (mup μ a (.inr (ci, fs.set k v))) else none
    | _ => none
def mpI (μ : mM) (r : Option Nat) (cs : List Nat) (k : Nat) (x : Int32) : Option mM := mpV μ r cs k (.int x)
def mpJ (μ : mM) (r : Option Nat) (cs : List Nat) (k : Nat) (x : Int64) : Option mM := mpV μ r cs k (.long x)
def mpA (μ : mM) (r : Option Nat) (cs : List Nat) (k : Nat) (x : Option Nat) : Option mM := mpV μ r cs k (va_rf x)
def mpZ (μ : mM) (r : Option Nat) (cs : List Nat) (k : Nat) (x : Int32) : Option mM := if x = 0 ∨ x = 1 then mpV μ r cs k (.int x) else none
def mz (x : Int32) : Option Int32 := if x = 0 ∨ x = 1 then some x else none
/-- the receiver of a call: an object of class c -/
def mrc (μ : mM) (r : Option Nat) (c : Nat) : Option Nat := match r with
  | none => none
  | some a => match μ a with
    | some (.inr (ci, _)) => if ci = c then some a else none
    | _ => none
def mnew (μ : mM) (z ci : Nat) (fs : List Value) : Option mM := some (mup μ z (.inr (ci, fs)))
def mblank (k n : Nat) : vp_A := match k with
  | 0 => (n, .inl (fun _ => 0))
  | 1 => (n, .inr (.inl (fun _ => 0)))
  | 2 => (n, .inl (fun _ => 0))
  | _ => (n, .inr (.inr (.inr (.inr (fun _ => none)))))
def mna (μ : mM) (z k : Nat) (n : Int32) : Option mM := if n < 0 ∨ 65536 < n.toNatClampNeg then none else some (mup μ z (.inl (k, mblank k n.toNatClampNeg)))
def mio (μ : mM) (r : Option Nat) (c : Nat) (ns : List Nat) : Option Int32 := match r with
  | none => some 0
  | some a => match μ a with
    | some (.inr (ci, _)) => if ci = c then some 1 else if ns.contains ci then some 0 else none
    | _ => none
def mcc (μ : mM) (r : Option Nat) (c : Nat) : Option Unit := match r with
  | none => some ()
  | some a => match μ a with
    | some (.inr (ci, _)) => if ci = c then some () else none
    | _ => none
def mcopy (μ : mM) (r : Option Nat) (sp : Int32) (q : Option Nat) (dp n : Int32) : Option mM := match r with
  | none => none
  | some a0 => match q with
    | none => none
    | some a => match μ a0 with
      | some (.inl (0, n0, .inl f)) => match μ a with
        | some (.inl (0, n1, .inl g)) => if sp < 0 ∨ dp < 0 ∨ n < 0 ∨ n0 < sp.toNatClampNeg + n.toNatClampNeg ∨ n1 < dp.toNatClampNeg + n.toNatClampNeg then none else some (mup μ a (.inl (0, n1, .inl (va_cpy f g sp.toNatClampNeg dp.toNatClampNeg n.toNatClampNeg))))
        | _ => none
      | _ => none
def mca (μ : mM) (r : Option Nat) : Option Unit := match r with
  | none => none
  | some a => match μ a with
    | some (.inl (0, _)) => some ()
    | _ => none
def mclone (μ : mM) (z w : Nat) (r : Option Nat) : Option (Option Nat × mM × Nat × Nat) := match r with
  | none => none
  | some a => match μ a with
    | some (.inl (0, n, .inl f)) => some (some z, mup μ z (.inl (0, n, .inl f)), z + 1, w + n)
    | _ => none
def jminI (x y : Int32) : Int32 := if y < x then y else x
def jmaxI (x y : Int32) : Int32 := if x < y then y else x
def jminJ (x y : Int64) : Int64 := if y < x then y else x
def jmaxJ (x y : Int64) : Int64 := if y < x then x else y
def mDt (i : Nat) : Int32 := if i = 0 then 31595 else if i = 1 then 32768 else 27030
def mgD (i : Int32) : Option Int32 := if i < 0 ∨ 3 ≤ i.toNatClampNeg then none else some (mDt i.toNatClampNeg)
def mgS (L : Nat) (xs : Nat → Int32) (i : Int32) : Option Int32 := if i < 0 ∨ L ≤ i.toNatClampNeg then none else some (xs i.toNatClampNeg)
-- elimination
theorem mgI_e {μ : mM} {r : Option Nat} {i v : Int32} (h : mgI μ r i = some v) : ∃ a n f, r = some a ∧ μ a = some (.inl (0, n, .inl f)) ∧ vp_in i n ∧ v = f i.toNatClampNeg := by
  unfold mgI at h
  split at h
  · cases h
  · rename_i a
    split at h
    · rename_i n f hm
      split at h
      · cases h
      · rename_i hi
        cases h
        exact ⟨a, n, f, rfl, hm, hi, rfl⟩
    · cases h
theorem mgJ_e {μ : mM} {r : Option Nat} {i : Int32} {v : Int64} (h : mgJ μ r i = some v) : ∃ a n f, r = some a ∧ μ a = some (.inl (1, n, .inr (.inl f))) ∧ vp_in i n ∧ v = f i.toNatClampNeg := by
  unfold mgJ at h
  split at h
  · cases h
  · rename_i a
    split at h
    · rename_i n f hm
      split at h
      · cases h
      · rename_i hi
        cases h
        exact ⟨a, n, f, rfl, hm, hi, rfl⟩
    · cases h
theorem mgZ_e {μ : mM} {r : Option Nat} {i v : Int32} (h : mgZ μ r i = some v) : ∃ a n f, r = some a ∧ μ a = some (.inl (2, n, .inl f)) ∧ vp_in i n ∧ v = f i.toNatClampNeg := by
  unfold mgZ at h
  split at h
  · cases h
  · rename_i a
    split at h
    · rename_i n f hm
      split at h
      · cases h
      · rename_i hi
        cases h
        exact ⟨a, n, f, rfl, hm, hi, rfl⟩
    · cases h
theorem mgA_e {μ : mM} {r : Option Nat} {i : Int32} {v : Option Nat} (h : mgA μ r i = some v) : ∃ a k n f, r = some a ∧ k < 5 ∧ μ a = some (.inl (k + 3, n, .inr (.inr (.inr (.inr f))))) ∧ vp_in i n ∧ v = f i.toNatClampNeg := by
  unfold mgA at h
  split at h
  · cases h
  · rename_i a
    split at h
    · rename_i k n f hm
      split at h
      · rename_i hk
        split at h
        · cases h
        · rename_i hi
          cases h
          exact ⟨a, k, n, f, rfl, hk, hm, hi, rfl⟩
      · cases h
    · cases h
theorem ml_e {μ : mM} {r : Option Nat} {v : Int32} (h : ml μ r = some v) : ∃ a k x, r = some a ∧ k < 8 ∧ μ a = some (.inl (k, x)) ∧ v = Int32.ofNat x.1 := by
  unfold ml at h
  split at h
  · cases h
  · rename_i a
    split at h
    · rename_i k n y hm
      split at h
      · rename_i hk
        cases h
        exact ⟨a, k, (n, y), rfl, hk, hm, rfl⟩
      · cases h
    · cases h
theorem mfV_e {μ : mM} {r : Option Nat} {cs : List Nat} {k : Nat} {v : Value} (h : mfV μ r cs k = some v) : ∃ a ci fs, r = some a ∧ μ a = some (.inr (ci, fs)) ∧ ci ∈ cs ∧ fs[k]? = some v := by
  unfold mfV at h
  split at h
  · cases h
  · rename_i a
    split at h
    · rename_i ci fs hm
      split at h
      · rename_i hc
        exact ⟨a, ci, fs, rfl, hm, by simpa using hc, h⟩
      · cases h
    · cases h
theorem mfI_e {μ : mM} {r : Option Nat} {cs : List Nat} {k : Nat} {v : Int32} (h : mfI μ r cs k = some v) : mfV μ r cs k = some (.int v) := by
  unfold mfI at h
  obtain ⟨w, h1, h2⟩ := Option.bind_eq_some_iff.mp h
  unfold vI at h2
  split at h2
  · cases h2; exact h1
  · cases h2
theorem mfJ_e {μ : mM} {r : Option Nat} {cs : List Nat} {k : Nat} {v : Int64} (h : mfJ μ r cs k = some v) : mfV μ r cs k = some (.long v) := by
  unfold mfJ at h
  obtain ⟨w, h1, h2⟩ := Option.bind_eq_some_iff.mp h
  unfold vJ at h2
  split at h2
  · cases h2; exact h1
  · cases h2
theorem mfA_e {μ : mM} {r : Option Nat} {cs : List Nat} {k : Nat} {v : Option Nat} (h : mfA μ r cs k = some v) : mfV μ r cs k = some (va_rf v) := by
  unfold mfA at h
  obtain ⟨w, h1, h2⟩ := Option.bind_eq_some_iff.mp h
  unfold vA at h2
  split at h2
  · cases h2; exact h1
  · cases h2; exact h1
  · cases h2
theorem mpV_e {μ μ' : mM} {r : Option Nat} {cs : List Nat} {k : Nat} {v : Value} (h : mpV μ r cs k v = some μ') : ∃ a ci fs, r = some a ∧ μ a = some (.inr (ci, fs)) ∧ ci ∈ cs ∧ k < fs.length ∧ μ' = mup μ a (.inr (ci, fs.set k v)) := by
  unfold mpV at h
  split at h
  · cases h
  · rename_i a
    split at h
    · rename_i ci fs hm
      split at h
      · rename_i hc
        cases h
        exact ⟨a, ci, fs, rfl, hm, by simpa using hc.1, hc.2, rfl⟩
      · cases h
    · cases h
theorem msI_e {μ μ' : mM} {r : Option Nat} {i x : Int32} (h : msI μ r i x = some μ') : ∃ a n f, r = some a ∧ μ a = some (.inl (0, n, .inl f)) ∧ vp_in i n ∧ μ' = mup μ a (.inl (0, n, .inl (upd f i.toNatClampNeg x))) := by
  unfold msI at h
  split at h
  · cases h
  · rename_i a
    split at h
    · rename_i n f hm
      split at h
      · cases h
      · rename_i hi
        cases h
        exact ⟨a, n, f, rfl, hm, hi, rfl⟩
    · cases h
theorem msJ_e {μ μ' : mM} {r : Option Nat} {i : Int32} {x : Int64} (h : msJ μ r i x = some μ') : ∃ a n f, r = some a ∧ μ a = some (.inl (1, n, .inr (.inl f))) ∧ vp_in i n ∧ μ' = mup μ a (.inl (1, n, .inr (.inl (vp_updL f i.toNatClampNeg x)))) := by
  unfold msJ at h
  split at h
  · cases h
  · rename_i a
    split at h
    · rename_i n f hm
      split at h
      · cases h
      · rename_i hi
        cases h
        exact ⟨a, n, f, rfl, hm, hi, rfl⟩
    · cases h
theorem msZ_e {μ μ' : mM} {r : Option Nat} {i x : Int32} (h : msZ μ r i x = some μ') : ∃ a n f, r = some a ∧ μ a = some (.inl (2, n, .inl f)) ∧ (x = 0 ∨ x = 1) ∧ vp_in i n ∧ μ' = mup μ a (.inl (2, n, .inl (upd f i.toNatClampNeg x))) := by
  unfold msZ at h
  split at h
  · cases h
  · rename_i a
    split at h
    · rename_i n f hm
      split at h
      · rename_i hx
        split at h
        · cases h
        · rename_i hi
          cases h
          exact ⟨a, n, f, rfl, hm, hx, hi, rfl⟩
      · cases h
    · cases h
theorem msA_e {μ μ' : mM} {r : Option Nat} {i : Int32} {x : Option Nat} (h : msA μ r i x = some μ') : ∃ a k n f, r = some a ∧ k < 5 ∧ μ a = some (.inl (k + 3, n, .inr (.inr (.inr (.inr f))))) ∧ vp_in i n ∧ μ' = mup μ a (.inl (k + 3, n, .inr (.inr (.inr (.inr (va_up f i.toNatClampNeg x)))))) ∧ (x = none ∨ ∃ b ci fs, x = some b ∧ μ b = some (.inr (ci, fs)) ∧ (mok k).contains ci = true) := by
  unfold msA at h
  split at h
  · cases h
  · rename_i a
    split at h
    · rename_i k n f hm
      split at h
      · rename_i hk
        split at h
        · cases h
        · rename_i hi
          split at h
          · cases h
            exact ⟨a, k, n, f, rfl, hk, hm, hi, rfl, Or.inl rfl⟩
          · rename_i b
            split at h
            · rename_i ci fs hb
              split at h
              · rename_i ho
                cases h
                exact ⟨a, k, n, f, rfl, hk, hm, hi, rfl, Or.inr ⟨b, ci, fs, rfl, hb, ho⟩⟩
              · cases h
            · cases h
      · cases h
    · cases h
theorem mio_e {μ : mM} {r : Option Nat} {c : Nat} {ns : List Nat} {v : Int32} (h : mio μ r c ns = some v) : (r = none ∧ v = 0) ∨ (∃ a fs, r = some a ∧ μ a = some (.inr (c, fs)) ∧ v = 1) ∨ ∃ a ci fs, r = some a ∧ μ a = some (.inr (ci, fs)) ∧ ci ∈ ns ∧ v = 0 := by
  unfold mio at h
  split at h
  · cases h; exact Or.inl ⟨rfl, rfl⟩
  · rename_i a
    split at h
    · rename_i ci fs hm
      split at h
      · rename_i hc
        cases h
        subst hc
        exact Or.inr (Or.inl ⟨a, fs, rfl, hm, rfl⟩)
      · split at h
        · rename_i hn
          cases h
          exact Or.inr (Or.inr ⟨a, ci, fs, rfl, hm, by simpa using hn, rfl⟩)
        · cases h
    · cases h
theorem mcc_e {μ : mM} {r : Option Nat} {c : Nat} {v : Unit} (h : mcc μ r c = some v) : r = none ∨ ∃ a fs, r = some a ∧ μ a = some (.inr (c, fs)) := by
  unfold mcc at h
  split at h
  · exact Or.inl rfl
  · rename_i a
    split at h
    · rename_i ci fs hm
      split at h
      · rename_i hc
        subst hc
        exact Or.inr ⟨a, fs, rfl, hm⟩
      · cases h
    · cases h
theorem mna_e {μ μ' : mM} {z k : Nat} {n : Int32} (h : mna μ z k n = some μ') : ¬ n < 0 ∧ n.toNatClampNeg ≤ 65536 ∧ μ' = mup μ z (.inl (k, mblank k n.toNatClampNeg)) := by
  unfold mna at h
  split at h
  · cases h
  · rename_i hn
    cases h
    exact ⟨fun q => hn (Or.inl q), Nat.le_of_not_lt fun q => hn (Or.inr q), rfl⟩
theorem mcopy_e {μ μ' : mM} {r q : Option Nat} {sp dp n : Int32} (h : mcopy μ r sp q dp n = some μ') : ∃ a0 n0 f a n1 g, r = some a0 ∧ q = some a ∧ μ a0 = some (.inl (0, n0, .inl f)) ∧ μ a = some (.inl (0, n1, .inl g)) ∧ ¬ sp < 0 ∧ ¬ dp < 0 ∧ ¬ n < 0 ∧ sp.toNatClampNeg + n.toNatClampNeg ≤ n0 ∧ dp.toNatClampNeg + n.toNatClampNeg ≤ n1 ∧ μ' = mup μ a (.inl (0, n1, .inl (va_cpy f g sp.toNatClampNeg dp.toNatClampNeg n.toNatClampNeg))) := by
  unfold mcopy at h
  split at h
  · cases h
  · rename_i a0
    split at h
    · cases h
    · rename_i a
      split at h
      · rename_i n0 f h0
        split at h
        · rename_i n1 g h1
          split at h
          · cases h
          · rename_i hn
            cases h
            simp only [not_or, Nat.not_lt] at hn
            exact ⟨a0, n0, f, a, n1, g, rfl, rfl, h0, h1, hn.1, hn.2.1, hn.2.2.1, hn.2.2.2.1, hn.2.2.2.2, rfl⟩
        · cases h
      · cases h
theorem mca_e {μ : mM} {r : Option Nat} {v : Unit} (h : mca μ r = some v) : ∃ a x, r = some a ∧ μ a = some (.inl (0, x)) := by
  unfold mca at h
  split at h
  · cases h
  · rename_i a
    split at h
    · rename_i x hm
      exact ⟨a, x, rfl, hm⟩
    · cases h
theorem mclone_e {μ : mM} {z w : Nat} {r : Option Nat} {q : Option Nat × mM × Nat × Nat} (h : mclone μ z w r = some q) : ∃ a n f, r = some a ∧ μ a = some (.inl (0, n, .inl f)) ∧ q = (some z, mup μ z (.inl (0, n, .inl f)), z + 1, w + n) := by
  unfold mclone at h
  split at h
  · cases h
  · rename_i a
    split at h
    · rename_i n f hm
      cases h
      exact ⟨a, n, f, rfl, hm, rfl⟩
    · cases h
theorem mgD_e {i v : Int32} (h : mgD i = some v) : vp_in i 3 ∧ v = mDt i.toNatClampNeg := by
  unfold mgD at h
  split at h
  · cases h
  · rename_i hi
    cases h
    exact ⟨hi, rfl⟩
theorem mgS_e {L : Nat} {xs : Nat → Int32} {i v : Int32} (h : mgS L xs i = some v) : vp_in i L ∧ v = xs i.toNatClampNeg := by
  unfold mgS at h
  split at h
  · cases h
  · rename_i hi
    cases h
    exact ⟨hi, rfl⟩
theorem mpZ_e {μ μ' : mM} {r : Option Nat} {cs : List Nat} {k : Nat} {x : Int32} (h : mpZ μ r cs k x = some μ') : (x = 0 ∨ x = 1) ∧ mpV μ r cs k (.int x) = some μ' := by
  unfold mpZ at h
  split at h
  · rename_i hx
    exact ⟨hx, h⟩
  · cases h
theorem mrc_e {μ : mM} {r : Option Nat} {c a : Nat} (h : mrc μ r c = some a) : r = some a ∧ ∃ fs, μ a = some (.inr (c, fs)) := by
  unfold mrc at h
  split at h
  · cases h
  · rename_i a'
    split at h
    · rename_i ci fs hm
      split at h
      · rename_i hc
        cases h
        subst hc
        exact ⟨rfl, fs, hm⟩
      · cases h
    · cases h
theorem mz_e {x v : Int32} (h : mz x = some v) : v = x ∧ (x = 0 ∨ x = 1) := by
  unfold mz at h
  split at h
  · rename_i hx
    cases h
    exact ⟨rfl, hx⟩
  · cases h
-- the heap holds the memory
def mtE (cA : Nat → ClassId) (e : mE) : va_E := match e with
  | .inl x => .inl (cA x.1, x.2)
  | .inr o => .inr o
def mP (D : va_G) (cl : List vw_C) (cA : Nat → ClassId) (z0 : Nat) (μ : mM) (H : Heap) : Prop := ∀ (a : Nat) (e : mE), μ a = some e → va_at D cl (a, mtE cA e) H ∧ z0 ≤ a
theorem mone {D : va_G} {cl : List vw_C} {q : Nat × va_E} {H : Heap} (h : va_at D cl q H) : va_P D cl [q] H := by
  intro k x hk
  cases k with
  | zero => cases hk; exact h
  | succ k => simp at hk
theorem mP.set {D : va_G} {cl : List vw_C} {cA : Nat → ClassId} {z0 : Nat} {μ : mM} {H H1 : Heap} {a : Nat} {e0 e : mE} (h : mP D cl cA z0 μ H) (h0 : μ a = some e0) (he : va_at D cl (a, mtE cA e) H1) (oq : ∀ q : Nat, q ≠ a → H1[q]? = H[q]?) : mP D cl cA z0 (mup μ a e) H1 := by
  intro b e' hb
  by_cases hba : b = a
  · subst hba
    rw [mup_self] at hb
    cases hb
    exact ⟨he, (h b e0 h0).2⟩
  · rw [mup_ne _ _ hba] at hb
    exact ⟨(h b e' hb).1.kept (oq b hba), (h b e' hb).2⟩
theorem mP.push {D : va_G} {cl : List vw_C} {cA : Nat → ClassId} {z0 : Nat} {μ : mM} {H H1 : Heap} {e : mE} (h : mP D cl cA z0 μ H) (he : va_at D cl (H.size, mtE cA e) H1) (oq : ∀ q : Nat, q < H.size → H1[q]? = H[q]?) (hz : z0 ≤ H.size) : mP D cl cA z0 (mup μ H.size e) H1 := by
  intro b e' hb
  by_cases hba : b = H.size
  · subst hba
    rw [mup_self] at hb
    cases hb
    exact ⟨he, hz⟩
  · rw [mup_ne _ _ hba] at hb
    exact ⟨(h b e' hb).1.kept (oq b (h b e' hb).1.lt), (h b e' hb).2⟩
