/-! The operations over a memory of which a cell is known: what they give. -/
theorem ng_in {i n : Nat} (h : i < n) (hn : n < 2 ^ 31) : ¬ (nI i < 0 ∨ n ≤ (nI i).toNatClampNeg) := nI_in h hn
theorem mgI_i {μ : mM} {a n i : Nat} {f : Nat → Int32} (h : μ a = some (.inl (0, n, .inl f))) (hi : i < n) (hn : n < 2 ^ 31) : mgI μ (some a) (nI i) = some (f i) := by
  have h2 : (nI i).toNatClampNeg = i := nI_clamp (by omega)
  simp only [mgI, h]
  rw [if_neg (ng_in hi hn), h2]
theorem mgJ_i {μ : mM} {a n i : Nat} {f : Nat → Int64} (h : μ a = some (.inl (1, n, .inr (.inl f)))) (hi : i < n) (hn : n < 2 ^ 31) : mgJ μ (some a) (nI i) = some (f i) := by
  have h2 : (nI i).toNatClampNeg = i := nI_clamp (by omega)
  simp only [mgJ, h]
  rw [if_neg (ng_in hi hn), h2]
theorem mgZ_i {μ : mM} {a n i : Nat} {f : Nat → Int32} (h : μ a = some (.inl (2, n, .inl f))) (hi : i < n) (hn : n < 2 ^ 31) : mgZ μ (some a) (nI i) = some (f i) := by
  have h2 : (nI i).toNatClampNeg = i := nI_clamp (by omega)
  simp only [mgZ, h]
  rw [if_neg (ng_in hi hn), h2]
theorem mgA_i {μ : mM} {a k n i : Nat} {f : Nat → Option Nat} (h : μ a = some (.inl (k + 3, n, .inr (.inr (.inr (.inr f)))))) (hk : k < 5) (hi : i < n) (hn : n < 2 ^ 31) : mgA μ (some a) (nI i) = some (f i) := by
  have h2 : (nI i).toNatClampNeg = i := nI_clamp (by omega)
  simp only [mgA, h]
  rw [if_pos hk, if_neg (ng_in hi hn), h2]
theorem ml_i {μ : mM} {a k : Nat} {x : vp_A} (h : μ a = some (.inl (k, x))) (hk : k < 8) : ml μ (some a) = some (nI x.1) := by
  obtain ⟨n, y⟩ := x
  simp only [ml, h]
  rw [if_pos hk]
  rfl
theorem msI_i {μ : mM} {a n i : Nat} {f : Nat → Int32} {x : Int32} (h : μ a = some (.inl (0, n, .inl f))) (hi : i < n) (hn : n < 2 ^ 31) : msI μ (some a) (nI i) x = some (mup μ a (.inl (0, n, .inl (upd f i x)))) := by
  have h2 : (nI i).toNatClampNeg = i := nI_clamp (by omega)
  simp only [msI, h]
  rw [if_neg (ng_in hi hn), h2]
theorem msJ_i {μ : mM} {a n i : Nat} {f : Nat → Int64} {x : Int64} (h : μ a = some (.inl (1, n, .inr (.inl f)))) (hi : i < n) (hn : n < 2 ^ 31) : msJ μ (some a) (nI i) x = some (mup μ a (.inl (1, n, .inr (.inl (vp_updL f i x))))) := by
  have h2 : (nI i).toNatClampNeg = i := nI_clamp (by omega)
  simp only [msJ, h]
  rw [if_neg (ng_in hi hn), h2]
theorem msZ_i {μ : mM} {a n i : Nat} {f : Nat → Int32} {x : Int32} (h : μ a = some (.inl (2, n, .inl f))) (hx : x = 0 ∨ x = 1) (hi : i < n) (hn : n < 2 ^ 31) : msZ μ (some a) (nI i) x = some (mup μ a (.inl (2, n, .inl (upd f i x)))) := by
  have h2 : (nI i).toNatClampNeg = i := nI_clamp (by omega)
  simp only [msZ, h]
  rw [if_pos hx, if_neg (ng_in hi hn), h2]
theorem mfV_i {μ : mM} {a ci k : Nat} {cs : List Nat} {fs : List Value} {v : Value} (h : μ a = some (.inr (ci, fs))) (hc : cs.contains ci = true) (hk : fs[k]? = some v) : mfV μ (some a) cs k = some v := by
  simp only [mfV, h]
  rw [if_pos hc, hk]
theorem mfI_i {μ : mM} {a ci k : Nat} {cs : List Nat} {fs : List Value} {v : Int32} (h : μ a = some (.inr (ci, fs))) (hc : cs.contains ci = true) (hk : fs[k]? = some (.int v)) : mfI μ (some a) cs k = some v := by
  unfold mfI
  rw [mfV_i h hc hk]
  rfl
theorem mfJ_i {μ : mM} {a ci k : Nat} {cs : List Nat} {fs : List Value} {v : Int64} (h : μ a = some (.inr (ci, fs))) (hc : cs.contains ci = true) (hk : fs[k]? = some (.long v)) : mfJ μ (some a) cs k = some v := by
  unfold mfJ
  rw [mfV_i h hc hk]
  rfl
theorem mfA_i {μ : mM} {a ci k : Nat} {cs : List Nat} {fs : List Value} {v : Option Nat} (h : μ a = some (.inr (ci, fs))) (hc : cs.contains ci = true) (hk : fs[k]? = some (va_rf v)) : mfA μ (some a) cs k = some v := by
  unfold mfA
  rw [mfV_i h hc hk]
  cases v <;> rfl
theorem mpV_i {μ : mM} {a ci k : Nat} {cs : List Nat} {fs : List Value} {v : Value} (h : μ a = some (.inr (ci, fs))) (hc : cs.contains ci = true) (hk : k < fs.length) : mpV μ (some a) cs k v = some (mup μ a (.inr (ci, fs.set k v))) := by
  simp only [mpV, h]
  rw [if_pos ⟨hc, hk⟩]
theorem mrc_i {μ : mM} {a c : Nat} {fs : List Value} (h : μ a = some (.inr (c, fs))) : mrc μ (some a) c = some a := by
  simp [mrc, h]
