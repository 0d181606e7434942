/-! The words that every contract has; what every state has (mG); what a walk knows (mX, mI). -/
def mT : List Cond := lw_tbl.filter goodWord
def mW (y : MethodName) (b : ByteArray) (n : Nat) (ret : Option FieldType) : List Cond := .code y b n ret :: mT
theorem mT_at {w : Cond} (k : Nat) (h : lw_tbl[k]? = some w) (hg : goodWord w = true) : w ∈ mT := List.mem_filter.mpr ⟨List.mem_of_getElem? h, hg⟩
theorem mT_good {y : MethodName} {b : ByteArray} {n : Nat} {ret : Option FieldType} (hc : Cond.code y b n ret ∈ mT) : GoodIn mT (mW y b n ret) := by
  intro w hw
  rcases List.mem_cons.mp hw with rfl | h
  · exact ⟨hc, good_of_word (List.mem_filter.mp hc).2⟩
  · exact ⟨h, good_of_word (List.mem_filter.mp h).2⟩
def mNK (w : Cond) : Bool := match w with
  | .fieldLinkNest .. => true
  | .methodLinkNest .. => true
  | .castable .. => true
  | .declares .. => true
  | _ => false
def mNW : List Cond := lw_tbl.filter mNK
theorem mNW_at {w : Cond} (k : Nat) (h : lw_tbl[k]? = some w) (hg : mNK w = true) : w ∈ mNW := List.mem_filter.mpr ⟨List.mem_of_getElem? h, hg⟩
theorem mNK_move {w : Cond} {s U : State} (h : mNK w = true) (hW : s.WarmedH U.vm) (hZ : va_Nw w s) : va_Nw w U := by
  cases w <;> first | exact va_Nw.warmF hW hZ | exact va_Nw.warmM hW hZ | exact va_Nw.warmC hW hZ | exact va_Nw.warmD hW hZ | (exact absurd h (by simp [mNK]))
theorem mNK_tab {w : Cond} (h : mNK w = true) : w.onTables = true := by
  cases w <;> first | rfl | (exact absurd h (by simp [mNK]))
abbrev mA (z0 : Nat) : Nat → Prop := fun q => z0 ≤ q
def mAO : List String := ["ColourLinker$Profile", "ColourLinker$Link", "ColourLinker$Piece", "ColourLinker$Curve", "ColourLinker$Grid"]
def mG (D : va_G) (cA : Nat → ClassId) (dA z0 : Nat) (U : State) : Prop :=
  va_K D mcl (mtys cA) U ∧ va_Z "ColourLinker" "D" "[I" (.ref dA) (mA z0) U U.heap ∧ va_T .int dA 3 (fun i => .int (mDt i)) (mA z0) U U.heap ∧ z0 ≤ U.heap.size ∧ (∀ w ∈ mNW, va_Nw w U) ∧ (∀ C ∈ mAO, va_AO C U) ∧ (∀ q ∈ mNC, va_Nc q.1 q.2 U)
theorem mG.move {D : va_G} {cA : Nat → ClassId} {dA z0 : Nat} {s U : State} {H : Heap} {locs : List Loc} (h : mG D cA dA z0 s) (hS : va_S (mA z0) s.heap H locs) (hU : U.heap = H) (hW : s.WarmedH U.vm) : mG D cA dA z0 U := by
  obtain ⟨h1, h2, h3, h4, h5, h6, h7⟩ := h
  subst hU
  have hq : ∀ a : Nat, a < s.heap.size → ¬ mA z0 a → U.heap[a]? = s.heap[a]? := hS.2.1
  exact ⟨va_K.moved hW.alike h1, (va_Z.moved hW.alike h2).kept hq, (va_T.moved hW.alike h3).kept hq, Nat.le_trans h4 hS.1, fun w hw => mNK_move (List.mem_filter.mp hw).2 hW (h5 w hw), fun C hC => va_AO.moved hW.alike (h6 C hC), fun q hq => va_Nc.moved hW.alike (h7 q hq)⟩
theorem mG.blind {D : va_G} {cA : Nat → ClassId} {dA z0 : Nat} {U : State} {g : JFrame} {mk : MethodId} {a : Array Value} (h : mG D cA dA z0 U) : mG D cA dA z0 (U.calling g mk a) := by
  obtain ⟨h1, h2, h3, h4, h5, h6, h7⟩ := h
  have hr : U.vm.Alike (U.calling g mk a).vm := Vm.Alike.refl U.vm
  exact ⟨va_K.moved hr h1, va_Z.moved hr h2, va_T.moved hr h3, h4, fun w hw => va_Nw.same (u := U) (U := U.calling g mk a) (mNK_tab (List.mem_filter.mp hw).2) rfl (h5 w hw), fun C hC => va_AO.moved hr (h6 C hC), fun q hq => va_Nc.moved hr (h7 q hq)⟩
def mX (p : Program) (m : MethodId) (meth : Method) (c : Code) (s : State) (args : Array Value) (cc : ByteArray) (nL : Nat) (ret : Option FieldType) (own : String) : Prop :=
  p.tables.exec = Jvm.exec ∧ c.code = cc ∧ c.maxLocals = nL ∧ s.vm.findClass own = some m.cls ∧ (∀ w ∈ mT, w.before args s = true) ∧ meth.locks = false ∧ meth.sig.returnType = ret
section MX
variable {p : Program} {m : MethodId} {meth : Method} {c : Code} {s : State} {args : Array Value} {cc : ByteArray} {nL : Nat} {ret : Option FieldType} {own : String}
theorem mX.ex (X : mX p m meth c s args cc nL ret own) : p.tables.exec = Jvm.exec := X.1
theorem mX.by_ (X : mX p m meth c s args cc nL ret own) : c.code = cc := X.2.1
theorem mX.ml (X : mX p m meth c s args cc nL ret own) : c.maxLocals = nL := X.2.2.1
theorem mX.ow (X : mX p m meth c s args cc nL ret own) : s.vm.findClass own = some m.cls := X.2.2.2.1
theorem mX.w (X : mX p m meth c s args cc nL ret own) {w : Cond} (h : w ∈ mT) : w.before args s = true := X.2.2.2.2.1 w h
theorem mX.lk (X : mX p m meth c s args cc nL ret own) : meth.locks = false := X.2.2.2.2.2.1
theorem mX.rt (X : mX p m meth c s args cc nL ret own) : meth.sig.returnType = ret := X.2.2.2.2.2.2
theorem mX.fx (X : mX p m meth c s args cc nL ret own) : CallFix p m c cc nL s args mT own := ⟨X.1, X.2.1, X.2.2.1, X.2.2.2.1, X.2.2.2.2.1⟩
theorem mX.of {l : Launch} {y : MethodName} {rm : Room} {e : Env} {below : List Frame} {s₁ : State} (B : BodyLoose p l y (headSpec (mW y cc nL ret) rm) cc nL ret e s m args below meth c s₁) (hml : c.maxLocals = nL) : mX p m meth c s args cc nL ret y.cls :=
  ⟨B.exec, B.bytes, hml, findClass_of_methodNamed B.named, fun w hw => atoms_spec (ws := mW y cc nL ret) B.pre w (List.mem_cons_of_mem _ hw), B.notSynchronized, B.returns⟩
end MX
/-- a walk's state: the heap H holds the memory, below z0 nothing has changed since the start, the size is z -/
def mI (D : va_G) (cA : Nat → ClassId) (z0 : Nat) (s : State) (μ : mM) (H : Heap) (locs : List Loc) (z : Nat) : Prop := mP D mcl cA z0 μ H ∧ va_S (mA z0) s.heap H locs ∧ H.size = z
theorem mI.start {D : va_G} {cA : Nat → ClassId} {z0 : Nat} {s : State} {μ : mM} (h : mP D mcl cA z0 μ s.heap) : mI D cA z0 s μ s.heap [] s.heap.size := ⟨h, va_S.rf, rfl⟩
theorem mI.set {D : va_G} {cA : Nat → ClassId} {z0 z : Nat} {s : State} {μ : mM} {H H1 : Heap} {locs : List Loc} {a k : Nat} {e0 e : mE} (h : mI D cA z0 s μ H locs z) (h0 : μ a = some e0) (he : va_at D mcl (a, mtE cA e) H1) (hz : H1.size = H.size) (oq : ∀ q : Nat, q ≠ a → H1[q]? = H[q]?) : mI D cA z0 s (mup μ a e) H1 (locs ++ [⟨a, k⟩]) z :=
  ⟨h.1.set h0 he oq, h.2.1.put hz oq (h.1 a e0 h0).2, hz.trans h.2.2⟩
theorem mI.push {D : va_G} {cA : Nat → ClassId} {z0 z : Nat} {s : State} {μ : mM} {H H1 : Heap} {locs : List Loc} {e : mE} (h : mI D cA z0 s μ H locs z) (hz0 : z0 ≤ s.heap.size) (he : va_at D mcl (z, mtE cA e) H1) (hz : H1.size = z + 1) (oq : ∀ q : Nat, q < z → H1[q]? = H[q]?) : mI D cA z0 s (mup μ z e) H1 locs (z + 1) := by
  obtain ⟨h1, h2, rfl⟩ := h
  exact ⟨h1.push he oq (Nat.le_trans hz0 h2.1), ⟨Nat.le_trans h2.1 (by omega), fun q g1 g2 => (oq q (Nat.lt_of_lt_of_le g1 h2.1)).trans (h2.2.1 q g1 g2), h2.2.2⟩, hz⟩
theorem mbind {α β : Type} {o : Option α} {f : α → Option β} {r : β} (h : o.bind f = some r) : ∃ a, o = some a ∧ f a = some r := Option.bind_eq_some_iff.mp h
theorem mift {α : Type} {c : Prop} {d : Decidable c} {a b : Option α} {r : α} (h : (@ite _ c d a b) = some r) (hc : c) : a = some r := (if_pos hc).symm.trans h
theorem miff {α : Type} {c : Prop} {d : Decidable c} {a b : Option α} {r : α} (h : (@ite _ c d a b) = some r) (hc : ¬ c) : b = some r := (if_neg hc).symm.trans h
theorem mrf_cat (x : Option Nat) : (va_rf x).category = 1 := by cases x <;> rfl
theorem mrf_some (a : Nat) : va_rf (some a) = .ref a := rfl
-- answers
def mQR (v : Option Value) : Array Value → State → Outcome → State → Prop := fun _ st o t => o = .returned v ∧ t.heap = st.heap
def mQW (D : va_G) (cA : Nat → ClassId) (z0 : Nat) (v : Option Value) (μ' : mM) : Array Value → State → Outcome → State → Prop := fun _ st o t => o = .returned v ∧ mP D mcl cA z0 μ' t.heap ∧ t.heap.size = st.heap.size ∧ va_F (mA z0) st t
def mQN (D : va_G) (cA : Nat → ClassId) (z0 : Nat) (v : Option Value) (μ' : mM) (z' : Nat) : Array Value → State → Outcome → State → Prop := fun _ st o t => o = .returned v ∧ mP D mcl cA z0 μ' t.heap ∧ t.heap.size = z' ∧ va_F (mA z0) st t
def mPr (D : va_G) (cA : Nat → ClassId) (dA z0 : Nat) (μ : mM) (U : State) : Prop := mG D cA dA z0 U ∧ mP D mcl cA z0 μ U.heap
def mPn (D : va_G) (cA : Nat → ClassId) (dA z0 : Nat) (μ : mM) (z : Nat) (U : State) : Prop := mG D cA dA z0 U ∧ mP D mcl cA z0 μ U.heap ∧ U.heap.size = z
theorem mPr_blind {D : va_G} {cA : Nat → ClassId} {dA z0 : Nat} {μ : mM} {av : List Value} : FrameBlind (va_Pc av (mPr D cA dA z0 μ)) := fun _ _ _ _ q => ⟨q.1, q.2.1.blind, q.2.2⟩
theorem mPn_blind {D : va_G} {cA : Nat → ClassId} {dA z0 z : Nat} {μ : mM} {av : List Value} : FrameBlind (va_Pc av (mPn D cA dA z0 μ z)) := fun _ _ _ _ q => ⟨q.1, q.2.1.blind, q.2.2.1, q.2.2.2⟩
/-- guard of a maker: sizes grow (so that the room is enough) -/
def mmV (z w z1 w1 : Nat) (o : Option (mM × Nat × Nat)) : Option (mM × Nat × Nat) := if z ≤ z1 ∧ w ≤ w1 then o.bind fun r => if z1 ≤ r.2.1 ∧ w1 ≤ r.2.2 then some r else none else none
def mmT {α : Type} (z w z1 w1 : Nat) (o : Option (α × mM × Nat × Nat)) : Option (α × mM × Nat × Nat) := if z ≤ z1 ∧ w ≤ w1 then o.bind fun r => if z1 ≤ r.2.2.1 ∧ w1 ≤ r.2.2.2 then some r else none else none
theorem mmV_e {z w z1 w1 : Nat} {o : Option (mM × Nat × Nat)} {r : mM × Nat × Nat} (h : mmV z w z1 w1 o = some r) : z ≤ z1 ∧ w ≤ w1 ∧ z1 ≤ r.2.1 ∧ w1 ≤ r.2.2 ∧ o = some r := by
  unfold mmV at h
  split at h
  · rename_i h1
    obtain ⟨a, ha, hb⟩ := Option.bind_eq_some_iff.mp h
    split at hb
    · rename_i h2
      cases hb
      exact ⟨h1.1, h1.2, h2.1, h2.2, ha⟩
    · cases hb
  · cases h
theorem mmT_e {α : Type} {z w z1 w1 : Nat} {o : Option (α × mM × Nat × Nat)} {r : α × mM × Nat × Nat} (h : mmT z w z1 w1 o = some r) : z ≤ z1 ∧ w ≤ w1 ∧ z1 ≤ r.2.2.1 ∧ w1 ≤ r.2.2.2 ∧ o = some r := by
  unfold mmT at h
  split at h
  · rename_i h1
    obtain ⟨a, ha, hb⟩ := Option.bind_eq_some_iff.mp h
    split at hb
    · rename_i h2
      cases hb
      exact ⟨h1.1, h1.2, h2.1, h2.2, ha⟩
    · cases hb
  · cases h
