/-! A row an instruction, over the memory. -/
def mfo (cs : List Nat) (k : Nat) (owner nm ds : String) (fin : Bool) : Bool := cs.all fun ci => match mcl[ci]? with
  | some q => decide (k < q.2.2) && ((q.2.1 k).1 == owner && ((q.2.1 k).2.1 == nm && ((q.2.1 k).2.2.1 == ds && (q.2.1 k).2.2.2 == fin)))
  | none => false
theorem mfo_e {cs : List Nat} {k : Nat} {owner nm ds : String} {fin : Bool} (h : mfo cs k owner nm ds fin = true) (ci : Nat) (hci : ci ∈ cs) : ∃ (C : String) (T : u_T) (N : Nat), mcl[ci]? = some (C, T, N) ∧ k < N ∧ (T k).1 = owner ∧ (T k).2.1 = nm ∧ (T k).2.2.1 = ds ∧ (T k).2.2.2 = fin := by
  have h1 := List.all_eq_true.mp h ci hci
  cases hq : mcl[ci]? with
  | none => rw [hq] at h1; cases h1
  | some q =>
    rw [hq] at h1
    obtain ⟨C, T, N⟩ := q
    simp only [Bool.and_eq_true, decide_eq_true_eq, beq_iff_eq] at h1
    exact ⟨C, T, N, rfl, h1.1, h1.2.1, h1.2.2.1, h1.2.2.2.1, h1.2.2.2.2⟩
section MRW
variable {p : Program} {l : Launch} {e : Env} {R : Room} {s : State} {m : MethodId} {args : Array Value} {below : List Frame} {meth : Method} {c : Code} {H : Heap} {locs : List Loc} {cells slots : Nat} {Q : State → Prop}
variable {cc : ByteArray} {pc nL : Nat} {ls : Array Slot} {rest : List Value} {D : va_G} {cA : Nat → ClassId} {dA z0 z : Nat} {own : String} {ret : Option FieldType} {μ μ' : mM}
theorem mn_same {owner ref nm ds : String} (X : mX p m meth c s args cc nL ret own) (hs : owner = ref ∨ Cond.sameField ref owner nm ds ∈ mT) : ∀ x, s.fieldFound? owner nm ds = some x → s.fieldFound? ref nm ds = some x := by
  rcases hs with rfl | h
  · exact fun _ h => h
  · exact fun x hx => u_same (X.w h) x hx
theorem r_aload_n (X : mX p m meth c s args cc nL ret own) {k : Fin 4} {i : Nat} {x : Option Nat} (hd : decode cc pc = .ok (.aload_n k, 1)) (hi : (k : Nat) = i) (hl : ls[i]? = some (.val (va_rf x)))
    (kk : W p l e R s m args below meth c H locs cells slots Q (F0 m (pc + 1) ls (va_rf x :: rest))) : W p l e R s m args below meth c H locs cells slots Q (F0 m pc ls rest) := by
  cases x with
  | none => exact lv_aload_nN X.ex X.by_ hd hi hl kk
  | some a => exact lv_aload_n X.ex X.by_ hd hi hl kk
theorem r_aload (X : mX p m meth c s args cc nL ret own) {i : Nat} {x : Option Nat} (hd : decode cc pc = .ok (.aload i, 2)) (hl : ls[i]? = some (.val (va_rf x)))
    (kk : W p l e R s m args below meth c H locs cells slots Q (F0 m (pc + 2) ls (va_rf x :: rest))) : W p l e R s m args below meth c H locs cells slots Q (F0 m pc ls rest) := by
  cases x with
  | none => exact lv_aloadN X.ex X.by_ hd hl kk
  | some a => exact lv_aload X.ex X.by_ hd hl kk
theorem r_astore_n (X : mX p m meth c s args cc nL ret own) {k : Fin 4} {i : Nat} {x : Option Nat} {lv lv' : List (Nat × Value)} (hd : decode cc pc = .ok (.astore_n k, 1)) (hi : (k : Nat) = i) (h : lv_has ls nL lv) (hn : i < nL) (hl : (i, va_rf x) :: lv.filter (fun q => !(q.1 == i) && !(q.1 + 1 == i && q.2.category == 2)) = lv')
    (kk : ∀ ls' : Array Slot, lv_has ls' nL lv' → W p l e R s m args below meth c H locs cells slots Q (F0 m (pc + 1) ls' rest)) : W p l e R s m args below meth c H locs cells slots Q (F0 m pc ls (va_rf x :: rest)) := by
  cases x with
  | none => exact lv_astore_nN X.ex X.by_ hd hi h hn hl kk
  | some a => exact lv_astore_n X.ex X.by_ hd hi h hn hl kk
theorem r_astore (X : mX p m meth c s args cc nL ret own) {i : Nat} {x : Option Nat} {lv lv' : List (Nat × Value)} (hd : decode cc pc = .ok (.astore i, 2)) (h : lv_has ls nL lv) (hn : i < nL) (hl : (i, va_rf x) :: lv.filter (fun q => !(q.1 == i) && !(q.1 + 1 == i && q.2.category == 2)) = lv')
    (kk : ∀ ls' : Array Slot, lv_has ls' nL lv' → W p l e R s m args below meth c H locs cells slots Q (F0 m (pc + 2) ls' rest)) : W p l e R s m args below meth c H locs cells slots Q (F0 m pc ls (va_rf x :: rest)) := by
  cases x with
  | none => exact lv_astoreN X.ex X.by_ hd h hn hl kk
  | some a => exact lv_astore X.ex X.by_ hd h hn hl kk
theorem r_ifnull (X : mX p m meth c s args cc nL ret own) {x : Option Nat} {off : Int} {tgt : Nat} (hd : decode cc pc = .ok (.ifnull off, 3)) (ht : (pc : Int) + off = (tgt : Int))
    (kt : x = none → W p l e R s m args below meth c H locs cells slots Q (F0 m tgt ls rest)) (kf : ¬ x = none → W p l e R s m args below meth c H locs cells slots Q (F0 m (pc + 3) ls rest)) : W p l e R s m args below meth c H locs cells slots Q (F0 m pc ls (va_rf x :: rest)) := by
  cases x with
  | none => exact lv_ifnullN X.ex X.by_ hd ht (kt rfl)
  | some a => exact lv_ifnull X.ex X.by_ hd (kf (fun h => by cases h))
theorem r_ifnonnull (X : mX p m meth c s args cc nL ret own) {x : Option Nat} {off : Int} {tgt : Nat} (hd : decode cc pc = .ok (.ifnonnull off, 3)) (ht : (pc : Int) + off = (tgt : Int))
    (kt : ¬ x = none → W p l e R s m args below meth c H locs cells slots Q (F0 m tgt ls rest)) (kf : x = none → W p l e R s m args below meth c H locs cells slots Q (F0 m (pc + 3) ls rest)) : W p l e R s m args below meth c H locs cells slots Q (F0 m pc ls (va_rf x :: rest)) := by
  cases x with
  | none => exact lv_ifnonnullN X.ex X.by_ hd (kf rfl)
  | some a => exact lv_ifnonnull X.ex X.by_ hd ht (kt (fun h => by cases h))
theorem r_null (X : mX p m meth c s args cc nL ret own) (hd : decode cc pc = .ok (.aconst_null, 1)) (k : W p l e R s m args below meth c H locs cells slots Q (F0 m (pc + 1) ls (va_rf none :: rest))) : W p l e R s m args below meth c H locs cells slots Q (F0 m pc ls rest) := lv_null X.ex X.by_ hd k
-- a long compare and its branch
theorem r_lceq (X : mX p m meth c s args cc nL ret own) {x y : Int64} {off : Int} {tgt : Nat} (h1 : decode cc pc = .ok (.lcmp, 1)) (h2 : decode cc (pc + 1) = .ok (.ifCond .eq off, 3)) (ht : ((pc + 1 : Nat) : Int) + off = (tgt : Int))
    (kt : x = y → W p l e R s m args below meth c H locs cells slots Q (F0 m tgt ls rest)) (kf : ¬ x = y → W p l e R s m args below meth c H locs cells slots Q (F0 m (pc + 4) ls rest)) : W p l e R s m args below meth c H locs cells slots Q (F0 m pc ls (.long y :: .long x :: rest)) :=
  W.lcmp X.ex X.by_ h1 (lv_if_eq X.ex X.by_ h2 ht (fun q => kt ((lg_cmp_eq x y).mp q)) (fun q => kf (fun z => q ((lg_cmp_eq x y).mpr z))))
theorem r_lcne (X : mX p m meth c s args cc nL ret own) {x y : Int64} {off : Int} {tgt : Nat} (h1 : decode cc pc = .ok (.lcmp, 1)) (h2 : decode cc (pc + 1) = .ok (.ifCond .ne off, 3)) (ht : ((pc + 1 : Nat) : Int) + off = (tgt : Int))
    (kt : ¬ x = y → W p l e R s m args below meth c H locs cells slots Q (F0 m tgt ls rest)) (kf : x = y → W p l e R s m args below meth c H locs cells slots Q (F0 m (pc + 4) ls rest)) : W p l e R s m args below meth c H locs cells slots Q (F0 m pc ls (.long y :: .long x :: rest)) :=
  W.lcmp X.ex X.by_ h1 (lv_if_ne X.ex X.by_ h2 ht (fun q => kt (fun z => q ((lg_cmp_eq x y).mpr z))) (fun q => kf ((lg_cmp_eq x y).mp q)))
theorem r_lclt (X : mX p m meth c s args cc nL ret own) {x y : Int64} {off : Int} {tgt : Nat} (h1 : decode cc pc = .ok (.lcmp, 1)) (h2 : decode cc (pc + 1) = .ok (.ifCond .lt off, 3)) (ht : ((pc + 1 : Nat) : Int) + off = (tgt : Int))
    (kt : x < y → W p l e R s m args below meth c H locs cells slots Q (F0 m tgt ls rest)) (kf : ¬ x < y → W p l e R s m args below meth c H locs cells slots Q (F0 m (pc + 4) ls rest)) : W p l e R s m args below meth c H locs cells slots Q (F0 m pc ls (.long y :: .long x :: rest)) :=
  W.lcmp X.ex X.by_ h1 (lv_if_lt X.ex X.by_ h2 ht (fun q => kt ((lg_cmp_lt x y).mp q)) (fun q => kf (fun z => q ((lg_cmp_lt x y).mpr z))))
theorem r_lcge (X : mX p m meth c s args cc nL ret own) {x y : Int64} {off : Int} {tgt : Nat} (h1 : decode cc pc = .ok (.lcmp, 1)) (h2 : decode cc (pc + 1) = .ok (.ifCond .ge off, 3)) (ht : ((pc + 1 : Nat) : Int) + off = (tgt : Int))
    (kt : y ≤ x → W p l e R s m args below meth c H locs cells slots Q (F0 m tgt ls rest)) (kf : ¬ y ≤ x → W p l e R s m args below meth c H locs cells slots Q (F0 m (pc + 4) ls rest)) : W p l e R s m args below meth c H locs cells slots Q (F0 m pc ls (.long y :: .long x :: rest)) :=
  W.lcmp X.ex X.by_ h1 (lv_if_ge X.ex X.by_ h2 ht (fun q => kt ((lg_cmp_ge x y).mp q)) (fun q => kf (fun z => q ((lg_cmp_ge x y).mpr z))))
theorem r_lcgt (X : mX p m meth c s args cc nL ret own) {x y : Int64} {off : Int} {tgt : Nat} (h1 : decode cc pc = .ok (.lcmp, 1)) (h2 : decode cc (pc + 1) = .ok (.ifCond .gt off, 3)) (ht : ((pc + 1 : Nat) : Int) + off = (tgt : Int))
    (kt : y < x → W p l e R s m args below meth c H locs cells slots Q (F0 m tgt ls rest)) (kf : ¬ y < x → W p l e R s m args below meth c H locs cells slots Q (F0 m (pc + 4) ls rest)) : W p l e R s m args below meth c H locs cells slots Q (F0 m pc ls (.long y :: .long x :: rest)) :=
  W.lcmp X.ex X.by_ h1 (lv_if_gt X.ex X.by_ h2 ht (fun q => kt ((lg_cmp_gt x y).mp q)) (fun q => kf (fun z => q ((lg_cmp_gt x y).mpr z))))
theorem r_lcle (X : mX p m meth c s args cc nL ret own) {x y : Int64} {off : Int} {tgt : Nat} (h1 : decode cc pc = .ok (.lcmp, 1)) (h2 : decode cc (pc + 1) = .ok (.ifCond .le off, 3)) (ht : ((pc + 1 : Nat) : Int) + off = (tgt : Int))
    (kt : x ≤ y → W p l e R s m args below meth c H locs cells slots Q (F0 m tgt ls rest)) (kf : ¬ x ≤ y → W p l e R s m args below meth c H locs cells slots Q (F0 m (pc + 4) ls rest)) : W p l e R s m args below meth c H locs cells slots Q (F0 m pc ls (.long y :: .long x :: rest)) :=
  W.lcmp X.ex X.by_ h1 (lv_if_le X.ex X.by_ h2 ht (fun q => kt ((lg_cmp_le x y).mp q)) (fun q => kf (fun z => q ((lg_cmp_le x y).mpr z))))
-- fields
theorem r_getf (X : mX p m meth c s args cc nL ret own) (G : mG D cA dA z0 s) (I : mI D cA z0 s μ H locs z) {r : Option Nat} {cs : List Nat} {k : Nat} {v : Value} (hv : mfV μ r cs k = some v) {ref owner nm ds : String} {fin : Bool} {ix : Nat} (hf : mfo cs k owner nm ds fin = true) (hl : Cond.fieldLink own ix ref nm ds ∈ mT) (hs : owner = ref ∨ Cond.sameField ref owner nm ds ∈ mT) (hd : decode cc pc = .ok (.getfield ix, 3))
    (kk : W p l e R s m args below meth c H locs cells slots Q (F0 m (pc + 3) ls (v :: rest))) : W p l e R s m args below meth c H locs cells slots Q (F0 m pc ls (va_rf r :: rest)) := by
  have hs2 := mn_same X hs
  obtain ⟨a, ci, fs, rfl, hm, hci, hk⟩ := mfV_e hv
  obtain ⟨C, T, N, hc, hkN, h1, h2, h3, h4⟩ := mfo_e hf ci hci
  subst h1; subst h2; subst h3
  exact va_get X.ex X.by_ X.2.2.2.2.1 (mcl_in ci _ hc) X.ow G.1 (mone (I.1 a _ hm).1) 0 rfl hc k hkN (X.w hl) hs2 hk hd kk
theorem r_getfN (X : mX p m meth c s args cc nL ret own) (G : mG D cA dA z0 s) (I : mI D cA z0 s μ H locs z) {r : Option Nat} {cs : List Nat} {k : Nat} {v : Value} (hv : mfV μ r cs k = some v) {ref owner nm ds host : String} {fin : Bool} {ix : Nat} (hf : mfo cs k owner nm ds fin = true) (hl : Cond.fieldLinkNest own ix ref nm ds host ∈ mNW) (hs : owner = ref ∨ Cond.sameField ref owner nm ds ∈ mT) (hd : decode cc pc = .ok (.getfield ix, 3))
    (kk : W p l e R s m args below meth c H locs cells slots Q (F0 m (pc + 3) ls (v :: rest))) : W p l e R s m args below meth c H locs cells slots Q (F0 m pc ls (va_rf r :: rest)) := by
  have hs2 := mn_same X hs
  obtain ⟨a, ci, fs, rfl, hm, hci, hk⟩ := mfV_e hv
  obtain ⟨C, T, N, hc, hkN, h1, h2, h3, h4⟩ := mfo_e hf ci hci
  subst h1; subst h2; subst h3
  exact va_getN X.ex X.by_ X.2.2.2.2.1 (mcl_in ci _ hc) X.ow G.1 (mone (I.1 a _ hm).1) 0 rfl hc k hkN (va_Nw.use rfl (G.2.2.2.2.1 _ hl)) hs2 hk hd kk
theorem r_put (X : mX p m meth c s args cc nL ret own) (G : mG D cA dA z0 s) (I : mI D cA z0 s μ H locs z) {r : Option Nat} {cs : List Nat} {k : Nat} {v : Value} (hv : mpV μ r cs k v = some μ') {ref owner nm ds : String} {ix : Nat} {ty : FieldType} (hf : mfo cs k owner nm ds false = true) (hl : Cond.fieldLink own ix ref nm ds ∈ mT) (hs : owner = ref ∨ Cond.sameField ref owner nm ds ∈ mT) (hty : parseFieldDescriptor ds = some ty) (hn : narrow ty v = v) (hfit : fits ty v = true) (hd : decode cc pc = .ok (.putfield ix, 3))
    (kk : ∀ (H1 : Heap) (locs1 : List Loc), mI D cA z0 s μ' H1 locs1 z → W p l e R s m args below meth c H1 locs1 cells slots Q (F0 m (pc + 3) ls rest)) : W p l e R s m args below meth c H locs cells slots Q (F0 m pc ls (v :: va_rf r :: rest)) := by
  have hs2 := mn_same X hs
  obtain ⟨a, ci, fs, rfl, hm, hci, hlen, rfl⟩ := mpV_e hv
  obtain ⟨C, T, N, hc, hkN, h1, h2, h3, h4⟩ := mfo_e hf ci hci
  subst h1; subst h2; subst h3
  have hin := mcl_in ci _ hc
  have hts := X.2.2.2.2.1
  have hap := va_apart (own := own) hts hin (mft ci) (mcl_ty ci _ hc) (mcl_nm ci _ hc) G.1 hc
  obtain ⟨q, e1, cell, q1, q2, q3, q4⟩ := (I.1 a _ hm).1
  have hr : q = (C, T, N) := Option.some.inj (e1.symm.trans hc)
  subst hr
  obtain ⟨hS, hfc, kC, hkC, hkind⟩ := G.1.1 ci _ hc
  obtain ⟨cf, kf, fi, f, hi, hsl⟩ := hS k hkN
  have hlay := hts _ (hin _ (u_in_lay hkN))
  unfold u_lay at hlay
  rw [if_neg (by rw [h4]; decide)] at hlay
  have hst := (u_facts hfc hkC (u_lays hts hin hkN) hi).1
  have h6 := u_store hfc hkC hkind hlay hi hty hn hfit
  refine W.putK X.ex X.by_ (f := f) ⟨X.ow, X.w hl, ⟨_, _, _, hs2 _ hi⟩, hst⟩ (by rw [q2]; exact h6) q1 q3 (by rw [hsl]; exact k2_hasslot (q4 k hkN)) rfl rfl hd fun H' e1 e2 e3 => ?_
  rw [hsl] at e1 ⊢
  exact kk H' _ (I.set hm ⟨_, hc, t_OB.to (V := updV (vp_V fs) k v) ⟨_, e1, q2, q3, t_set q4 hap hkN v⟩ (fun j _ => vp_updV_set hlen v j)⟩ e2 e3)
theorem r_putN (X : mX p m meth c s args cc nL ret own) (G : mG D cA dA z0 s) (I : mI D cA z0 s μ H locs z) {r : Option Nat} {cs : List Nat} {k : Nat} {v : Value} (hv : mpV μ r cs k v = some μ') {ref owner nm ds host : String} {ix : Nat} {ty : FieldType} (hf : mfo cs k owner nm ds false = true) (hl : Cond.fieldLinkNest own ix ref nm ds host ∈ mNW) (hs : owner = ref ∨ Cond.sameField ref owner nm ds ∈ mT) (hty : parseFieldDescriptor ds = some ty) (hn : narrow ty v = v) (hfit : fits ty v = true) (hd : decode cc pc = .ok (.putfield ix, 3))
    (kk : ∀ (H1 : Heap) (locs1 : List Loc), mI D cA z0 s μ' H1 locs1 z → W p l e R s m args below meth c H1 locs1 cells slots Q (F0 m (pc + 3) ls rest)) : W p l e R s m args below meth c H locs cells slots Q (F0 m pc ls (v :: va_rf r :: rest)) := by
  have hs2 := mn_same X hs
  obtain ⟨a, ci, fs, rfl, hm, hci, hlen, rfl⟩ := mpV_e hv
  obtain ⟨C, T, N, hc, hkN, h1, h2, h3, h4⟩ := mfo_e hf ci hci
  subst h1; subst h2; subst h3
  have hin := mcl_in ci _ hc
  have hts := X.2.2.2.2.1
  have hap := va_apart (own := own) hts hin (mft ci) (mcl_ty ci _ hc) (mcl_nm ci _ hc) G.1 hc
  obtain ⟨q, e1, cell, q1, q2, q3, q4⟩ := (I.1 a _ hm).1
  have hr : q = (C, T, N) := Option.some.inj (e1.symm.trans hc)
  subst hr
  obtain ⟨hS, hfc, kC, hkC, hkind⟩ := G.1.1 ci _ hc
  obtain ⟨cf, kf, fi, f, hi, hsl⟩ := hS k hkN
  have hlay := hts _ (hin _ (u_in_lay hkN))
  unfold u_lay at hlay
  rw [if_neg (by rw [h4]; decide)] at hlay
  have hst := (u_facts hfc hkC (u_lays hts hin hkN) hi).1
  have h6 := u_store hfc hkC hkind hlay hi hty hn hfit
  refine va_WputK X.ex X.by_ (f := f) X.ow (va_Nw.use rfl (G.2.2.2.2.1 _ hl)) (hs2 _ hi) hst (by rw [q2]; exact h6) q1 q3 (by rw [hsl]; exact k2_hasslot (q4 k hkN)) rfl rfl hd fun H' e1 e2 e3 => ?_
  rw [hsl] at e1 ⊢
  exact kk H' _ (I.set hm ⟨_, hc, t_OB.to (V := updV (vp_V fs) k v) ⟨_, e1, q2, q3, t_set q4 hap hkN v⟩ (fun j _ => vp_updV_set hlen v j)⟩ e2 e3)
theorem r_putF (X : mX p m meth c s args cc nL ret own) (G : mG D cA dA z0 s) (I : mI D cA z0 s μ H locs z) {r : Option Nat} {cs : List Nat} {k : Nat} {v : Value} (hv : mpV μ r cs k v = some μ') {nm ds : String} {ix : Nat} {ty : FieldType} (hf : mfo cs k own nm ds true = true) (hl : Cond.fieldLink own ix own nm ds ∈ mT) (hin2 : meth.name = "<init>") (hty : parseFieldDescriptor ds = some ty) (hn : narrow ty v = v) (hfit : fits ty v = true) (hd : decode cc pc = .ok (.putfield ix, 3))
    (kk : ∀ (H1 : Heap) (locs1 : List Loc), mI D cA z0 s μ' H1 locs1 z → W p l e R s m args below meth c H1 locs1 cells slots Q (F0 m (pc + 3) ls rest)) : W p l e R s m args below meth c H locs cells slots Q (F0 m pc ls (v :: va_rf r :: rest)) := by
  obtain ⟨a, ci, fs, rfl, hm, hci, hlen, rfl⟩ := mpV_e hv
  obtain ⟨C, T, N, hc, hkN, h1, h2, h3, h4⟩ := mfo_e hf ci hci
  subst h2; subst h3
  have hin := mcl_in ci _ hc
  have hts := X.2.2.2.2.1
  have hap := va_apart (own := own) hts hin (mft ci) (mcl_ty ci _ hc) (mcl_nm ci _ hc) G.1 hc
  obtain ⟨q, e1, cell, q1, q2, q3, q4⟩ := (I.1 a _ hm).1
  have hr : q = (C, T, N) := Option.some.inj (e1.symm.trans hc)
  subst hr
  obtain ⟨hS, hfc, kC, hkC, hkind⟩ := G.1.1 ci _ hc
  obtain ⟨cf, kf, fi, f, hi, hsl⟩ := hS k hkN
  have hlay := hts _ (hin _ (u_in_lay hkN))
  unfold u_lay at hlay
  rw [if_pos h4] at hlay
  have hst := (u_facts hfc hkC (u_lays hts hin hkN) hi).1
  have hcf : m.cls = cf := by
    obtain ⟨_, _, c', _, _, _, -, -, hf', -, -, -, hown2, -⟩ := Cond.laysFinal_spec hlay
    have e1 : c' = cf := by have := hi.symm.trans hf'; simp at this; exact this.1.symm
    rw [h1] at hown2
    rw [← e1]; exact Option.some.inj (X.ow.symm.trans hown2)
  have h6 := u_fits hfc hkC hkind (Or.inr hlay) hi hty hn hfit
  refine W.putFinK X.ex X.by_ X.ow (X.w hl) (by rw [← h1]; exact hi) hst hcf hin2 (by rw [q2]; exact h6) q1 q3 (by rw [hsl]; exact k2_hasslot (q4 k hkN)) rfl rfl hd fun H' e1 e2 e3 => ?_
  rw [hsl] at e1 ⊢
  exact kk H' _ (I.set hm ⟨_, hc, t_OB.to (V := updV (vp_V fs) k v) ⟨_, e1, q2, q3, t_set q4 hap hkN v⟩ (fun j _ => vp_updV_set hlen v j)⟩ e2 e3)
theorem mn_nA {C : String} (x : Option Nat) : narrow (.object C) (va_rf x) = va_rf x := by cases x <;> rfl
theorem mn_nR {t : FieldType} (x : Option Nat) : narrow (.array t) (va_rf x) = va_rf x := by cases x <;> rfl
theorem mn_fA {C : String} (x : Option Nat) : fits (.object C) (va_rf x) = true := by cases x <;> rfl
theorem mn_fR {t : FieldType} (x : Option Nat) : fits (.array t) (va_rf x) = true := by cases x <;> rfl
theorem mn_nZ {x : Int32} (h : x = 0 ∨ x = 1) : narrow .boolean (.int x) = .int x := by rcases h with rfl | rfl <;> rfl
theorem mn_fZ {x : Int32} (h : x = 0 ∨ x = 1) : fits .boolean (.int x) = true := by rcases h with rfl | rfl <;> rfl
-- arrays
theorem r_iald (X : mX p m meth c s args cc nL ret own) (G : mG D cA dA z0 s) (I : mI D cA z0 s μ H locs z) {r : Option Nat} {i v : Int32} (hv : mgI μ r i = some v) (hd : decode cc pc = .ok (.iaload, 1))
    (kk : W p l e R s m args below meth c H locs cells slots Q (F0 m (pc + 1) ls (.int v :: rest))) : W p l e R s m args below meth c H locs cells slots Q (F0 m pc ls (.int i :: va_rf r :: rest)) := by
  obtain ⟨a, n, f, rfl, hm, hi, rfl⟩ := mgI_e hv
  exact va_iald X.ex X.by_ G.1 (mone (I.1 a _ hm).1) 0 0 rfl rfl hi hd kk
theorem r_lald (X : mX p m meth c s args cc nL ret own) (G : mG D cA dA z0 s) (I : mI D cA z0 s μ H locs z) {r : Option Nat} {i : Int32} {v : Int64} (hv : mgJ μ r i = some v) (hd : decode cc pc = .ok (.laload, 1))
    (kk : W p l e R s m args below meth c H locs cells slots Q (F0 m (pc + 1) ls (.long v :: rest))) : W p l e R s m args below meth c H locs cells slots Q (F0 m pc ls (.int i :: va_rf r :: rest)) := by
  obtain ⟨a, n, f, rfl, hm, hi, rfl⟩ := mgJ_e hv
  exact va_lald X.ex X.by_ G.1 (mone (I.1 a _ hm).1) 0 1 rfl rfl hi hd kk
theorem r_zald (X : mX p m meth c s args cc nL ret own) (G : mG D cA dA z0 s) (I : mI D cA z0 s μ H locs z) {r : Option Nat} {i v : Int32} (hv : mgZ μ r i = some v) (hd : decode cc pc = .ok (.baload, 1))
    (kk : W p l e R s m args below meth c H locs cells slots Q (F0 m (pc + 1) ls (.int v :: rest))) : W p l e R s m args below meth c H locs cells slots Q (F0 m pc ls (.int i :: va_rf r :: rest)) := by
  obtain ⟨a, n, f, rfl, hm, hi, rfl⟩ := mgZ_e hv
  exact va_zald X.ex X.by_ G.1 (mone (I.1 a _ hm).1) 0 2 rfl rfl hi hd kk
def mel (k : Nat) : String := ["ColourLinker$Profile", "ColourLinker$Link", "ColourLinker$Piece", "ColourLinker$Curve", "ColourLinker$Grid"].getD k ""
theorem mtys_el {k : Nat} (hk : k < 5) : (mtys cA)[k + 3]? = some (cA (k + 3), .object (mel k)) := by
  have h : k = 0 ∨ k = 1 ∨ k = 2 ∨ k = 3 ∨ k = 4 := by omega
  rcases h with rfl | rfl | rfl | rfl | rfl <;> rfl
theorem mtys_ty {k : Nat} (hk : k < 8) : ∃ ty, (mtys cA)[k]? = some (cA k, ty) := by
  have h : k = 0 ∨ k = 1 ∨ k = 2 ∨ k = 3 ∨ k = 4 ∨ k = 5 ∨ k = 6 ∨ k = 7 := by omega
  rcases h with rfl | rfl | rfl | rfl | rfl | rfl | rfl | rfl <;> exact ⟨_, rfl⟩
theorem r_aald (X : mX p m meth c s args cc nL ret own) (G : mG D cA dA z0 s) (I : mI D cA z0 s μ H locs z) {r : Option Nat} {i : Int32} {v : Option Nat} (hv : mgA μ r i = some v) (hd : decode cc pc = .ok (.aaload, 1))
    (kk : W p l e R s m args below meth c H locs cells slots Q (F0 m (pc + 1) ls (va_rf v :: rest))) : W p l e R s m args below meth c H locs cells slots Q (F0 m pc ls (.int i :: va_rf r :: rest)) := by
  obtain ⟨a, k, n, f, rfl, hk, hm, hi, rfl⟩ := mgA_e hv
  exact va_aldq X.ex X.by_ G.1 (mone (I.1 a _ hm).1) 0 (k + 3) rfl (mtys_el hk) hi hd kk
theorem r_alen (X : mX p m meth c s args cc nL ret own) (G : mG D cA dA z0 s) (I : mI D cA z0 s μ H locs z) {r : Option Nat} {v : Int32} (hv : ml μ r = some v) (hd : decode cc pc = .ok (.arraylength, 1))
    (kk : W p l e R s m args below meth c H locs cells slots Q (F0 m (pc + 1) ls (.int v :: rest))) : W p l e R s m args below meth c H locs cells slots Q (F0 m pc ls (va_rf r :: rest)) := by
  obtain ⟨a, k, x, rfl, hk, hm, rfl⟩ := ml_e hv
  obtain ⟨ty, ht⟩ := mtys_ty (cA := cA) hk
  exact va_alen X.ex X.by_ G.1 (mone (I.1 a _ hm).1) 0 k rfl ht rfl hd kk
theorem r_iast (X : mX p m meth c s args cc nL ret own) (G : mG D cA dA z0 s) (I : mI D cA z0 s μ H locs z) {r : Option Nat} {i x : Int32} (hv : msI μ r i x = some μ') (hd : decode cc pc = .ok (.iastore, 1))
    (kk : ∀ (H1 : Heap) (locs1 : List Loc), mI D cA z0 s μ' H1 locs1 z → W p l e R s m args below meth c H1 locs1 cells slots Q (F0 m (pc + 1) ls rest)) : W p l e R s m args below meth c H locs cells slots Q (F0 m pc ls (.int x :: .int i :: va_rf r :: rest)) := by
  obtain ⟨a, n, f, rfl, hm, hi, rfl⟩ := msI_e hv
  have hc : H[a]? = some (vp_cell (cA 0) (n, .inl f)) := (I.1 a _ hm).1
  refine W.iast X.ex X.by_ hc ((G.1.2 0 _ rfl).1 n (fun j => .int (f j))) (fun q => by cases q) (by show ¬ (i < 0 ∨ (arrV _ _ _).slots.size ≤ _); rw [arrV_size]; exact hi) rfl rfl hd fun H1 e1 hz oq => ?_
  refine kk H1 _ (I.set hm ?_ hz oq)
  show H1[a]? = some (vp_cell _ _)
  rw [e1]
  rw [vp_cell_i, vp_cell_i, arrV_store]
  congr 2
  funext q
  by_cases hq : q = i.toNatClampNeg
  · subst hq
    simp [updV, upd]
  · simp [updV, upd, hq]
theorem r_last (X : mX p m meth c s args cc nL ret own) (G : mG D cA dA z0 s) (I : mI D cA z0 s μ H locs z) {r : Option Nat} {i : Int32} {x : Int64} (hv : msJ μ r i x = some μ') (hd : decode cc pc = .ok (.lastore, 1))
    (kk : ∀ (H1 : Heap) (locs1 : List Loc), mI D cA z0 s μ' H1 locs1 z → W p l e R s m args below meth c H1 locs1 cells slots Q (F0 m (pc + 1) ls rest)) : W p l e R s m args below meth c H locs cells slots Q (F0 m pc ls (.long x :: .int i :: va_rf r :: rest)) := by
  obtain ⟨a, n, f, rfl, hm, hi, rfl⟩ := msJ_e hv
  have hc : H[a]? = some (vp_cell (cA 1) (n, .inr (.inl f))) := (I.1 a _ hm).1
  refine W.last X.ex X.by_ hc ((G.1.2 1 _ rfl).1 n (fun j => .long (f j))) (fun q => by cases q) (by show ¬ (i < 0 ∨ (arrV _ _ _).slots.size ≤ _); rw [arrV_size]; exact hi) rfl rfl hd fun H1 e1 hz oq => ?_
  refine kk H1 _ (I.set hm ?_ hz oq)
  show H1[a]? = some (vp_cell _ _)
  rw [e1]
  rw [vp_cell_l, vp_cell_l, arrV_store]
  congr 2
  funext q
  by_cases hq : q = i.toNatClampNeg
  · subst hq
    simp [updV, vp_updL]
  · simp [updV, vp_updL, hq]
theorem r_zast (X : mX p m meth c s args cc nL ret own) (G : mG D cA dA z0 s) (I : mI D cA z0 s μ H locs z) {r : Option Nat} {i x : Int32} (hv : msZ μ r i x = some μ') (hd : decode cc pc = .ok (.bastore, 1))
    (kk : ∀ (H1 : Heap) (locs1 : List Loc), mI D cA z0 s μ' H1 locs1 z → W p l e R s m args below meth c H1 locs1 cells slots Q (F0 m (pc + 1) ls rest)) : W p l e R s m args below meth c H locs cells slots Q (F0 m pc ls (.int x :: .int i :: va_rf r :: rest)) := by
  obtain ⟨a, n, f, rfl, hm, hx, hi, rfl⟩ := msZ_e hv
  have hc : H[a]? = some (vp_cell (cA 2) (n, .inl f)) := (I.1 a _ hm).1
  have hx2 : narrow .boolean (.int x) = .int x := mn_nZ hx
  refine W.zast X.ex X.by_ hc ((G.1.2 2 _ rfl).1 n (fun j => .int (f j))) (fun q => by cases q) (by show ¬ (i < 0 ∨ (arrV _ _ _).slots.size ≤ _); rw [arrV_size]; exact hi) rfl rfl hd fun H1 e1 hz oq => ?_
  refine kk H1 _ (I.set hm ?_ hz oq)
  show H1[a]? = some (vp_cell _ _)
  rw [e1]
  rw [vp_cell_i, vp_cell_i, arrV_store]
  congr 2
  funext q
  by_cases hq : q = i.toNatClampNeg
  · subst hq
    simp [updV, upd, hx2]
  · simp [updV, upd, hq]
theorem m_asg (G : mG D cA dA z0 s) {k ci : Nat} (hk : k < 5) (ho : (mok k).contains ci = true) {comp : ClassId} (h1 : s.vm.findClass (mel k) = some comp) : s.vm.assignable (D.1 ci) comp = true := by
  have h : k = 0 ∨ k = 1 ∨ k = 2 ∨ k = 3 ∨ k = 4 := by omega
  rcases h with rfl | rfl | rfl | rfl | rfl
  · have hc : ci = 9 := by simpa [mok] using ho
    subst hc
    have hcl := (G.1.1 9 _ rfl).2
    cases h1.symm.trans hcl.1
    exact va_assign hcl
  · have hc : ci = 7 := by simpa [mok] using ho
    subst hc
    have hcl := (G.1.1 7 _ rfl).2
    cases h1.symm.trans hcl.1
    exact va_assign hcl
  · have hc : ci = 0 ∨ ci = 3 ∨ ci = 4 ∨ ci = 5 ∨ ci = 6 ∨ ci = 8 := by simpa [mok] using ho
    rcases hc with rfl | rfl | rfl | rfl | rfl | rfl
    · exact vb_asgC (G.2.2.2.2.1 _ mcP_Adjust) comp _ h1 (G.1.1 0 _ rfl).2.1
    · exact vb_asgC (G.2.2.2.2.1 _ mcP_Curves) comp _ h1 (G.1.1 3 _ rfl).2.1
    · exact vb_asgC (G.2.2.2.2.1 _ mcP_Gray) comp _ h1 (G.1.1 4 _ rfl).2.1
    · exact vb_asgC (G.2.2.2.2.1 _ mcP_Grid) comp _ h1 (G.1.1 5 _ rfl).2.1
    · exact vb_asgC (G.2.2.2.2.1 _ mcP_LabXyz) comp _ h1 (G.1.1 6 _ rfl).2.1
    · exact vb_asgC (G.2.2.2.2.1 _ mcP_Matrix) comp _ h1 (G.1.1 8 _ rfl).2.1
  · have hc : ci = 2 := by simpa [mok] using ho
    subst hc
    have hcl := (G.1.1 2 _ rfl).2
    cases h1.symm.trans hcl.1
    exact va_assign hcl
  · have hc : ci = 5 := by simpa [mok] using ho
    subst hc
    have hcl := (G.1.1 5 _ rfl).2
    cases h1.symm.trans hcl.1
    exact va_assign hcl
theorem r_aast (X : mX p m meth c s args cc nL ret own) (G : mG D cA dA z0 s) (I : mI D cA z0 s μ H locs z) {r x : Option Nat} {i : Int32} (hv : msA μ r i x = some μ') (hd : decode cc pc = .ok (.aastore, 1))
    (kk : ∀ (H1 : Heap) (locs1 : List Loc), mI D cA z0 s μ' H1 locs1 z → W p l e R s m args below meth c H1 locs1 cells slots Q (F0 m (pc + 1) ls rest)) : W p l e R s m args below meth c H locs cells slots Q (F0 m pc ls (va_rf x :: .int i :: va_rf r :: rest)) := by
  obtain ⟨a, k, n, f, rfl, hk, hm, hi, rfl, hx⟩ := msA_e hv
  have hc : H[a]? = some (vp_cell (cA (k + 3)) (n, .inr (.inr (.inr (.inr f))))) := (I.1 a _ hm).1
  have hT := G.1.2 (k + 3) _ (mtys_el hk)
  have hlt : i.toNatClampNeg < n := Nat.not_le.mp fun q => hi (Or.inr q)
  have h0 : ¬ i < 0 := fun q => hi (Or.inl q)
  rcases hx with rfl | ⟨b, ci, fs, rfl, hb, ho⟩
  · refine va_WaastN (C := mel k) X.ex X.by_ hc (hT.1 n (fun j => va_rf (f j))) (fun h => by cases h) (by show ¬ (i < 0 ∨ (arrV _ _ _).slots.size ≤ _); rw [arrV_size]; exact hi) rfl rfl hd fun H1 e1 hz oq => ?_
    refine kk H1 _ (I.set hm ?_ hz oq)
    show H1[a]? = some (vp_cell _ _)
    rw [e1]
    rw [vp_cell_q, vp_cell_q, arrV_store]
    congr 2
    funext q
    by_cases hq : q = i.toNatClampNeg
    · subst hq
      simp [updV, va_up, va_rf]
    · simp [updV, va_up, hq]
  · obtain ⟨q', e2, cellV, g1, g2, g3, -⟩ := (I.1 b _ hb).1
    obtain ⟨kA, comp, k1, k2, k3, -⟩ := hT.2
    obtain ⟨kE, hkE, -⟩ := Vm.findClass_spec k3
    have hcls := (G.1.1 ci _ e2).2
    obtain ⟨kC, hkC, -⟩ := hcls.2
    refine W.aast X.ex X.by_ hc (fun q h => by cases h) (fun h => by cases h) k1 k2 rfl hkE ⟨h0, by show _ < (arrV _ _ _).slots.size; rw [arrV_size]; exact hlt⟩ g1 (fun q h => by rw [g3] at h; cases h) (by rw [g2]; exact hkC) (by rw [g2]; exact m_asg G hk ho k3) rfl rfl hd fun H1 e1 hz oq => ?_
    refine kk H1 _ (I.set hm ?_ hz oq)
    show H1[a]? = some (vp_cell _ _)
    rw [e1]
    rw [vp_cell_q, vp_cell_q, arrV_store]
    congr 2
    funext q
    by_cases hq : q = i.toNatClampNeg
    · subst hq
      simp [updV, va_up, va_rf]
    · simp [updV, va_up, hq]
-- the static row D
theorem r_gets (X : mX p m meth c s args cc nL ret own) (G : mG D cA dA z0 s) (I : mI D cA z0 s μ H locs z) {ref : String} {ix : Nat} (hl : Cond.fieldLink own ix ref "D" "[I" ∈ mT) (hs : ref = "ColourLinker") (hd : decode cc pc = .ok (.getstatic ix, 3))
    (kk : W p l e R s m args below meth c H locs cells slots Q (F0 m (pc + 3) ls (.ref dA :: rest))) : W p l e R s m args below meth c H locs cells slots Q (F0 m pc ls rest) := by
  subst hs
  exact va_gets X.ex X.by_ G.2.1 I.2.1 X.ow (X.w hl) (fun _ h => h) hd kk
theorem r_getsN (X : mX p m meth c s args cc nL ret own) (G : mG D cA dA z0 s) (I : mI D cA z0 s μ H locs z) {ref host : String} {ix : Nat} (hl : Cond.fieldLinkNest own ix ref "D" "[I" host ∈ mNW) (hs : ref = "ColourLinker") (hd : decode cc pc = .ok (.getstatic ix, 3))
    (kk : W p l e R s m args below meth c H locs cells slots Q (F0 m (pc + 3) ls (.ref dA :: rest))) : W p l e R s m args below meth c H locs cells slots Q (F0 m pc ls rest) := by
  subst hs
  exact va_getsN X.ex X.by_ G.2.1 I.2.1 X.ow (va_Nw.use rfl (G.2.2.2.2.1 _ hl)) (fun _ h => h) hd kk
theorem r_ti (X : mX p m meth c s args cc nL ret own) (G : mG D cA dA z0 s) (I : mI D cA z0 s μ H locs z) {i v : Int32} (hv : mgD i = some v) (hd : decode cc pc = .ok (.iaload, 1))
    (kk : W p l e R s m args below meth c H locs cells slots Q (F0 m (pc + 1) ls (.int v :: rest))) : W p l e R s m args below meth c H locs cells slots Q (F0 m pc ls (.int i :: .ref dA :: rest)) := by
  obtain ⟨hi, rfl⟩ := mgD_e hv
  exact va_ti X.ex X.by_ G.2.2.1 I.2.1 hi rfl hd kk
-- classes
theorem m_recv (G : mG D cA dA z0 s) (I : mI D cA z0 s μ H locs z) {a ci : Nat} {fs : List Value} {C : String} (hm : μ a = some (.inr (ci, fs))) (hC : mcl[ci]?.map (fun q => q.1) = some C) : ∃ cell : Cell, H[a]? = some cell ∧ cell.vm.isStatics = false ∧ s.vm.findClass C = some cell.cls := by
  obtain ⟨q, e1, -⟩ := (I.1 a _ hm).1
  have e2 : mcl[ci]? = some q := e1
  rw [e2] at hC
  cases hC
  exact va_recv G.1 (mone (I.1 a _ hm).1) e2 (q0 := 0) rfl
theorem r_cast (X : mX p m meth c s args cc nL ret own) (G : mG D cA dA z0 s) (I : mI D cA z0 s μ H locs z) {r : Option Nat} {ci : Nat} {v : Unit} (hv : mcc μ r ci = some v) {C : String} (hC : mcl[ci]?.map (fun q => q.1) = some C) {ix : Nat} (hl : Cond.classLink own ix C ∈ mT) (hd : decode cc pc = .ok (.checkcast ix, 3))
    (kk : W p l e R s m args below meth c H locs cells slots Q (F0 m (pc + 3) ls (va_rf r :: rest))) : W p l e R s m args below meth c H locs cells slots Q (F0 m pc ls (va_rf r :: rest)) := by
  rcases mcc_e hv with rfl | ⟨a, fs, rfl, hm⟩
  · exact lv_castN X.ex X.by_ hd kk
  · have hr := m_recv G I hm hC
    obtain ⟨q, e1, -⟩ := (I.1 a _ hm).1
    have e2 : mcl[ci]? = some q := e1
    rw [e2] at hC
    cases hC
    exact va_castS X.ex X.by_ X.ow (X.w hl) (G.1.1 ci _ e2).2 hr hd kk
def mnco (ns : List Nat) (C : String) : Bool := ns.all fun ci => match mcl[ci]? with
  | some q => mNC.contains (q.1, C)
  | none => false
theorem r_inst (X : mX p m meth c s args cc nL ret own) (G : mG D cA dA z0 s) (I : mI D cA z0 s μ H locs z) {r : Option Nat} {ci : Nat} {ns : List Nat} {v : Int32} (hv : mio μ r ci ns = some v) {C : String} (hC : mcl[ci]?.map (fun q => q.1) = some C) (hns : mnco ns C = true) {ix : Nat} (hl : Cond.classLink own ix C ∈ mT) (hd : decode cc pc = .ok (.instanceof ix, 3))
    (kk : W p l e R s m args below meth c H locs cells slots Q (F0 m (pc + 3) ls (.int v :: rest))) : W p l e R s m args below meth c H locs cells slots Q (F0 m pc ls (va_rf r :: rest)) := by
  rcases mio_e hv with ⟨rfl, rfl⟩ | ⟨a, fs, rfl, hm, rfl⟩ | ⟨a, cj, fs, rfl, hm, hj, rfl⟩
  · exact lv_instN X.ex X.by_ hd kk
  · have hr := m_recv G I hm hC
    obtain ⟨q, e1, -⟩ := (I.1 a _ hm).1
    have e2 : mcl[ci]? = some q := e1
    rw [e2] at hC
    cases hC
    exact va_instS X.ex X.by_ X.ow (X.w hl) (G.1.1 ci _ e2).2 hr hd kk
  · obtain ⟨q, e1, -⟩ := (I.1 a _ hm).1
    have e2 : mcl[cj]? = some q := e1
    have h1 := List.all_eq_true.mp hns cj hj
    rw [e2] at h1
    have h2 : (q.1, C) ∈ mNC := by simpa using h1
    exact va_instNo X.ex X.by_ X.ow (X.w hl) (G.2.2.2.2.2.2 _ h2) (m_recv G I hm (by rw [e2]; rfl)) hd kk
-- new things: cells z - zs, slots w - ws are counted from the method's start
theorem m_cells {zs z r : Nat} (h : zs ≤ z) (h1 : z + 1 ≤ r) : z - zs + 1 ≤ r - zs := by omega
theorem r_new (X : mX p m meth c s args cc nL ret own) (G : mG D cA dA z0 s) (I : mI D cA z0 s μ H locs z) {w ws zr wr : Nat} (hw : ws ≤ w) (hRc : R.cells = zr - s.heap.size) (hRs : R.slots = wr - ws) {ci N : Nat} {fs : List Value} (hv : mnew μ z ci fs = some μ') (hz : z + 1 ≤ zr) (hwr : w + N ≤ wr) {C : String} {T : u_T} (hc : mcl[ci]? = some (C, T, N)) (hfs : ∀ j, j < N → defaultValue (mft ci j) = vp_V fs j) {ix : Nat} (hl : Cond.classLink own ix C ∈ mT) (hins : Cond.instantiable C N ∈ mT) (hini : Cond.initialized C ∈ mT) (hd : decode cc pc = .ok (.new ix, 3))
    (kk : ∀ (H1 : Heap), mI D cA z0 s μ' H1 locs (z + 1) → W p l e R s m args below meth c H1 locs (z + 1 - s.heap.size) (w + N - ws) Q (F0 m (pc + 3) ls (va_rf (some z) :: rest))) : W p l e R s m args below meth c H locs (z - s.heap.size) (w - ws) Q (F0 m pc ls rest) := by
  have hsz : s.heap.size ≤ z := by have h1 := I.2.1.1; have h2 := I.2.2; omega
  have e1 : z - s.heap.size + 1 = z + 1 - s.heap.size := by omega
  have e2 : w - ws + N = w + N - ws := by omega
  have hKn := G.1.1 ci _ hc
  cases hv
  refine W.newcK X.ex X.by_ X.ow (X.w hl) (X.w hins) (X.w hini) rfl hd (by rw [hRc]; omega) (by rw [hRs]; omega) hKn.2.1 I.2.2 fun H1 kC hkC h1 z1 o1 => ?_
  rw [e1, e2]
  exact kk H1 (I.push G.2.2.2.1 ⟨_, hc, (u_born (mft ci) X.2.2.2.2.1 (mcl_in ci _ hc) hKn hkC h1 (mcl_ty ci _ hc)).to hfs⟩ z1 o1)
theorem m_blank (k n : Nat) (cI : ClassId) (ty : FieldType) (h : (k = 0 ∧ ty = .int) ∨ (k = 1 ∧ ty = .long) ∨ (k = 2 ∧ ty = .boolean)) : vp_cell cI (mblank k n) = arrV cI n (fun _ => defaultValue ty) := by
  rcases h with ⟨rfl, rfl⟩ | ⟨rfl, rfl⟩ | ⟨rfl, rfl⟩ <;> rfl
theorem r_newa (X : mX p m meth c s args cc nL ret own) (G : mG D cA dA z0 s) (I : mI D cA z0 s μ H locs z) {w ws zr wr : Nat} (hw : ws ≤ w) (hRc : R.cells = zr - s.heap.size) (hRs : R.slots = wr - ws) {k : Nat} {n : Int32} (hv : mna μ z k n = some μ') (hz : z + 1 ≤ zr) (hwr : w + n.toNatClampNeg ≤ wr) {atype : ArrayType} (hk : (k = 0 ∧ newarray.typeOf atype = .int) ∨ (k = 1 ∧ newarray.typeOf atype = .long) ∨ (k = 2 ∧ newarray.typeOf atype = .boolean)) (hl : Cond.arrayClass (newarray.typeOf atype) ∈ mT) (hd : decode cc pc = .ok (.newarray atype, 2))
    (kk : ∀ (H1 : Heap), mI D cA z0 s μ' H1 locs (z + 1) → W p l e R s m args below meth c H1 locs (z + 1 - s.heap.size) (w + n.toNatClampNeg - ws) Q (F0 m (pc + 2) ls (va_rf (some z) :: rest))) : W p l e R s m args below meth c H locs (z - s.heap.size) (w - ws) Q (F0 m pc ls (.int n :: rest)) := by
  obtain ⟨hn, hb, rfl⟩ := mna_e hv
  have hsz : s.heap.size ≤ z := by have h1 := I.2.1.1; have h2 := I.2.2; omega
  have e1 : z - s.heap.size + 1 = z + 1 - s.heap.size := by omega
  have e2 : w - ws + n.toNatClampNeg = w + n.toNatClampNeg - ws := by omega
  refine va_newaK X.ex X.by_ (X.w hl) rfl hd rfl hn rfl ?_ (by rw [hRc]; omega) (by rw [hRs]; omega) I.2.2 fun H1 cI h1 z1 o1 hAr hNm => ?_
  · rcases hk with ⟨-, h⟩ | ⟨-, h⟩ | ⟨-, h⟩ <;> rw [h] <;> simp only [componentBytes] <;> omega
  · rw [e1, e2]
    have hcI : cI = cA k := by
      rcases hk with ⟨rfl, h⟩ | ⟨rfl, h⟩ | ⟨rfl, h⟩
      · rw [h] at hNm; exact Option.some.inj (hNm.symm.trans (G.1.2 0 _ rfl).2)
      · rw [h] at hNm; exact Option.some.inj (hNm.symm.trans (G.1.2 1 _ rfl).2)
      · rw [h] at hNm; exact Option.some.inj (hNm.symm.trans (G.1.2 2 _ rfl).2)
    subst hcI
    refine kk H1 (I.push G.2.2.2.1 ?_ z1 o1)
    show H1[z]? = some (vp_cell (cA k) (mblank k n.toNatClampNeg))
    rw [m_blank k _ _ _ hk]
    exact h1
theorem m_blankA (k n : Nat) (cI : ClassId) : vp_cell cI (mblank (k + 3) n) = arrV cI n (fun _ => .null) := rfl
theorem r_anew (X : mX p m meth c s args cc nL ret own) (G : mG D cA dA z0 s) (I : mI D cA z0 s μ H locs z) {w ws zr wr : Nat} (hw : ws ≤ w) (hRc : R.cells = zr - s.heap.size) (hRs : R.slots = wr - ws) {k : Nat} {n : Int32} (hv : mna μ z (k + 3) n = some μ') (hz : z + 1 ≤ zr) (hwr : w + n.toNatClampNeg ≤ wr) (hk : k < 5) {C : String} (hC : mel k = C) {ix : Nat} (hl : Cond.classLink own ix C ∈ mT) (hd : decode cc pc = .ok (.anewarray ix, 3))
    (kk : ∀ (H1 : Heap), mI D cA z0 s μ' H1 locs (z + 1) → W p l e R s m args below meth c H1 locs (z + 1 - s.heap.size) (w + n.toNatClampNeg - ws) Q (F0 m (pc + 3) ls (va_rf (some z) :: rest))) : W p l e R s m args below meth c H locs (z - s.heap.size) (w - ws) Q (F0 m pc ls (.int n :: rest)) := by
  subst hC
  obtain ⟨hn, hb, rfl⟩ := mna_e hv
  have hsz : s.heap.size ≤ z := by have h1 := I.2.1.1; have h2 := I.2.2; omega
  have e1 : z - s.heap.size + 1 = z + 1 - s.heap.size := by omega
  have e2 : w - ws + n.toNatClampNeg = w + n.toNatClampNeg - ws := by omega
  have hAO : mel k ∈ mAO := by
    have h : k = 0 ∨ k = 1 ∨ k = 2 ∨ k = 3 ∨ k = 4 := by omega
    rcases h with rfl | rfl | rfl | rfl | rfl <;> decide
  obtain ⟨h1, h2, hz2⟩ := I
  subst hz2
  refine W.anew X.ex X.by_ X.ow (X.w hl) (va_AO.use (G.2.2.2.2.2.1 _ hAO)) rfl hd rfl hn (by omega) (by rw [hRc]; omega) (by rw [hRs]; omega) fun cI kI comp f1 f2 f3 f4 => ?_
  rw [e1, e2]
  generalize hH1 : H.push ({ cls := cI, slots := Array.replicate n.toNatClampNeg .null, vm := .none } : Cell) = H1
  have z1 : H1.size = H.size + 1 := by rw [← hH1, Array.size_push]
  have e3 : H1[H.size]? = some (arrV cI n.toNatClampNeg (fun _ => .null)) := by rw [← hH1, Array.getElem?_push_size, ← arrV_new]
  have o1 : ∀ q, q < H.size → H1[q]? = H[q]? := fun q hq => by rw [← hH1, Array.getElem?_push, if_neg (Nat.ne_of_lt hq)]
  have hcI : cI = cA (k + 3) := by
    obtain ⟨kA, comp2, k1, k2, k3, k4⟩ := (G.1.2 (k + 3) _ (mtys_el hk)).2
    exact Option.some.inj (f1.symm.trans k4)
  subst hcI
  refine kk H1 (mI.push ⟨h1, h2, rfl⟩ G.2.2.2.1 ?_ z1 o1)
  show H1[H.size]? = some (vp_cell (cA (k + 3)) (mblank (k + 3) n.toNatClampNeg))
  rw [m_blankA]
  exact e3
-- System.arraycopy of ints
theorem r_copy (X : mX p m meth c s args cc nL ret own) (G : mG D cA dA z0 s) (I : mI D cA z0 s μ H locs z) (hls : ls.size = nL) {r q : Option Nat} {sp dp n : Int32} (hv : mcopy μ r sp q dp n = some μ') {ix : Nat} (hl : Cond.methodLink own ix arraycopyName ∈ mT) (hnat : Cond.native arraycopyName ∈ mT) (hstat : Cond.static arraycopyName ∈ mT) (hini : Cond.initialized "java/lang/System" ∈ mT) (hfr : 1 ≤ R.frames) (hlo : (rest.map fun v => v.category).sum + (nativeFrameWords "java/lang/System" "arraycopy" 5 + 11) ≤ R.locals) (hd : decode cc pc = .ok (.invokestatic ix, 3))
    (kk : ∀ (H1 : Heap) (locs1 : List Loc), mI D cA z0 s μ' H1 locs1 z → W p l e R s m args below meth c H1 locs1 cells slots Q (F0 m (pc + 3) ls rest)) : W p l e R s m args below meth c H locs cells slots Q (F0 m pc ls (.int n :: .int dp :: va_rf q :: .int sp :: va_rf r :: rest)) := by
  obtain ⟨a0, n0, f, a, n1, g, rfl, rfl, hm0, hm1, h1, h2, h3, h4, h5, rfl⟩ := mcopy_e hv
  have hc0 : H[a0]? = some (vp_cell (cA 0) (n0, .inl f)) := (I.1 a0 _ hm0).1
  have hc1 : H[a]? = some (vp_cell (cA 0) (n1, .inl g)) := (I.1 a _ hm1).1
  have nn : ∀ z : Int32, ¬ z < 0 → z.toInt = (z.toNatClampNeg : Int) := by
    intro z hz
    have hz0 : (0 : Int) ≤ z.toInt := by
      have := Int32.not_lt.mp hz
      simpa using Int32.le_iff_toInt_le.mp this
    show z.toInt = ((z.toInt.toNat : Nat) : Int)
    omega
  intro T hT Y
  obtain ⟨-, k0, hk0, cm0, hkk0⟩ := (G.1.2 0 _ rfl).1 n0 (fun j => .int (f j))
  obtain ⟨-, k1, hk1, cm1, hkk1⟩ := (G.1.2 0 _ rfl).1 n1 (fun j => .int (g j))
  obtain ⟨vm', Y', step⟩ := Y.arraycopy X.ex X.ow (X.w hl) (X.w hnat) (X.w hstat) (X.w hini) (src := a0) (dst := a) (cs := vp_cell (cA 0) (n0, .inl f)) (cd := vp_cell (cA 0) (n1, .inl g)) (srcPos := sp) (destPos := dp) (n := n) (by rw [hT]; exact hc0) (by rw [hT]; exact hc1)
    (fun _ h => by cases h) (fun _ h => by cases h) (fun h => by cases h) (fun h => by cases h) hk0 hk1 hkk0 hkk1 (by simp [refKind]) h1 h2 h3
    (by rw [nn sp h1, nn n h3]; show ¬ _ > ((arrV (cA 0) n0 (fun j => .int (f j))).slots.size : Int); rw [arrV_size]; omega)
    (by rw [nn dp h2, nn n h3]; show ¬ _ > ((arrV (cA 0) n1 (fun j => .int (g j))).slots.size : Int); rw [arrV_size]; omega)
    (fun vm₁ _ i hi => by
      have e : (vp_cell (cA 0) (n0, .inl f)).slots.getD (sp.toNatClampNeg + i) .null = .int (f (sp.toNatClampNeg + i)) := by
        show (arrV (cA 0) n0 (fun j => .int (f j))).slots.getD _ _ = _
        rw [Array.getD_eq_getD_getElem?, arrV_read _ _ (by omega)]
        rfl
      refine ⟨?_, ?_⟩
      · rw [e]
        rfl
      · rw [e]
        exact trivial)
    (g := F0 m pc ls (.int n :: .int dp :: .ref a :: .int sp :: .ref a0 :: rest)) rfl (by rw [X.ml]; exact hls) (rest := rest) rfl (by rw [X.by_]; exact hd) hfr (by show 2 * 0 + _ + _ ≤ _; omega)
  have e1 : copied (vp_cell (cA 0) (n0, .inl f)) (vp_cell (cA 0) (n1, .inl g)) sp dp n = vp_cell (cA 0) (n1, .inl (va_cpy f g sp.toNatClampNeg dp.toNatClampNeg n.toNatClampNeg)) := va_copied (fun z => .int z) (cA 0) (cA 0) f g h4
  rw [e1] at Y' step
  have hlt : a < H.size := (Array.getElem?_eq_some_iff.mp hc1).1
  have hheap : ((T.setVm vm').setCell a (vp_cell (cA 0) (n1, .inl (va_cpy f g sp.toNatClampNeg dp.toNatClampNeg n.toNatClampNeg)))).heap = H.setIfInBounds a (vp_cell (cA 0) (n1, .inl (va_cpy f g sp.toNatClampNeg dp.toNatClampNeg n.toNatClampNeg))) := by rw [← hT]; rfl
  have oq : ∀ q : Nat, q ≠ a → (H.setIfInBounds a (vp_cell (cA 0) (n1, .inl (va_cpy f g sp.toNatClampNeg dp.toNatClampNeg n.toNatClampNeg))))[q]? = H[q]? := fun q hq => by simp [Array.getElem?_setIfInBounds, Ne.symm hq]
  have hA : z0 ≤ a := (I.1 a _ hm1).2
  have hat : (H.setIfInBounds a (vp_cell (cA 0) (n1, .inl (va_cpy f g sp.toNatClampNeg dp.toNatClampNeg n.toNatClampNeg))))[a]? = some (vp_cell (cA 0) (n1, .inl (va_cpy f g sp.toNatClampNeg dp.toNatClampNeg n.toNatClampNeg))) := by simp [Array.getElem?_setIfInBounds, hlt]
  obtain ⟨t, a1, b1⟩ := kk _ _ ⟨I.1.set hm1 (e := .inl (0, n1, .inl (va_cpy f g sp.toNatClampNeg dp.toNatClampNeg n.toNatClampNeg))) hat oq, ⟨by rw [Array.size_setIfInBounds]; exact I.2.1.1, fun q g1 g2 => by
      rw [oq q (fun e => g2 (by rw [e]; exact hA))]
      exact I.2.1.2.1 q g1 g2, fun q hq => by
      rcases List.mem_append.mp hq with h | h
      · exact I.2.1.2.2 q h
      · obtain ⟨z, -, hz⟩ := List.mem_map.mp h
        rw [← hz]
        exact hA⟩, by rw [Array.size_setIfInBounds]; exact I.2.2⟩ _ hheap Y'
  exact ⟨t, step t a1, b1⟩
theorem r_castI (X : mX p m meth c s args cc nL ret own) (G : mG D cA dA z0 s) (I : mI D cA z0 s μ H locs z) {r : Option Nat} {v : Unit} (hv : mca μ r = some v) {ix : Nat} (hl : Cond.classLink own ix "[I" ∈ mT) (hd : decode cc pc = .ok (.checkcast ix, 3))
    (kk : W p l e R s m args below meth c H locs cells slots Q (F0 m (pc + 3) ls (va_rf r :: rest))) : W p l e R s m args below meth c H locs cells slots Q (F0 m pc ls (va_rf r :: rest)) := by
  obtain ⟨a, x, rfl, hm⟩ := mca_e hv
  exact va_castA X.ex X.by_ X.ow (X.w hl) (mone (I.1 a _ hm).1) 0 rfl (va_nm_int (G.1.2 0 _ rfl).2) hd kk
theorem r_clone (X : mX p m meth c s args cc nL ret own) (G : mG D cA dA z0 s) (I : mI D cA z0 s μ H locs z) {w ws zr wr : Nat} (hw : ws ≤ w) (hRc : R.cells = zr - s.heap.size) (hRs : R.slots = wr - ws) (hls : ls.size = nL) {r : Option Nat} {q : Option Nat × mM × Nat × Nat} (hv : mclone μ z w r = some q) (hz : q.2.2.1 ≤ zr) (hwr : q.2.2.2 ≤ wr) {ix : Nat}
    (hl : Cond.methodLink own ix ⟨"[I", "clone", "()Ljava/lang/Object;"⟩ ∈ mT) (hsame : Cond.sameMethod "[I" "java/lang/Object" "clone" "()Ljava/lang/Object;" ∈ mT) (hnat : Cond.native ⟨"java/lang/Object", "clone", "()Ljava/lang/Object;"⟩ ∈ mT) (hinst : Cond.instanceMethod ⟨"java/lang/Object", "clone", "()Ljava/lang/Object;"⟩ ∈ mT)
    (hsel : Cond.selects "[I" ⟨"[I", "clone", "()Ljava/lang/Object;"⟩ ⟨"java/lang/Object", "clone", "()Ljava/lang/Object;"⟩ ∈ mT) (hcl : Cond.castable "[I" "java/lang/Cloneable" ∈ mNW) (hfr : 1 ≤ R.frames) (hlo : (rest.map fun v => v.category).sum + 14 ≤ R.locals) (hd : decode cc pc = .ok (.invokevirtual ix, 3))
    (kk : ∀ (H1 : Heap), mI D cA z0 s q.2.1 H1 locs q.2.2.1 → W p l e R s m args below meth c H1 locs (q.2.2.1 - s.heap.size) (q.2.2.2 - ws) Q (F0 m (pc + 3) ls (va_rf q.1 :: rest))) : W p l e R s m args below meth c H locs (z - s.heap.size) (w - ws) Q (F0 m pc ls (va_rf r :: rest)) := by
  obtain ⟨a, n, f, rfl, hm, rfl⟩ := mclone_e hv
  have hz : z + 1 ≤ zr := hz
  have hwr : w + n ≤ wr := hwr
  have hsz : s.heap.size ≤ z := by have h1 := I.2.1.1; have h2 := I.2.2; omega
  have e1 : z - s.heap.size + 1 = z + 1 - s.heap.size := by omega
  have e2 : w - ws + n = w + n - ws := by omega
  have hnm : s.vm.findClass "[I" = some (cA 0) := va_nm_int (G.1.2 0 _ rfl).2
  obtain ⟨c0, t0', f1, f2, f3⟩ := Cond.castable_spec (va_Nw.use (A := args) rfl (G.2.2.2.2.1 _ hcl))
  cases hnm.symm.trans f1
  have hc : H[a]? = some (vp_cell (cA 0) (n, .inl f)) := (I.1 a _ hm).1
  intro T hT Y
  have hcellT : T.heap[a]? = some (vp_cell (cA 0) (n, .inl f)) := by rw [hT]; exact hc
  obtain ⟨-, kA, hkA, comp, hkind⟩ := State.isArrayOf_alike Y.warmed.alike ((G.1.2 0 _ rfl).1 0 (fun _ => .null))
  obtain ⟨-, kS, hkS, compS, hkindS⟩ := (G.1.2 0 _ rfl).1 0 (fun _ => .null)
  obtain ⟨vm', Y', st⟩ := Y.cloneArray X.ex X.ow (X.w hl) (X.w hsame) (X.w hnat) (X.w hinst) (X.w hsel) (a := a) (cell := vp_cell (cA 0) (n, .inl f)) hcellT (fun k h => by cases h) (fun h => by cases h) hnm f2 f3
    (fun i v hv => by
      have hk' : T.vm.classes[cA 0]? = some kA := hkA
      have hf : fits .int v = true := va_fit (cA := cA 0) (n := n) (F := fun j => .int (f j)) (ty := .int) (fun i _ => rfl) i v hv
      show T.fitsSlot (cA 0) _ i v = true
      simpa [State.fitsSlot, State.slotType?, hk', hkind] using hf)
    (g := F0 m pc ls (.ref a :: rest)) rfl (by rw [X.ml]; exact hls) rfl (by rw [X.by_]; exact hd) hfr (by show 2 * 0 + _ + 14 ≤ _; omega) (by rw [hRc]; omega) (by show _ + (arrV _ _ _).slots.size ≤ _; rw [arrV_size, hRs]; omega) (hloader := Vm.clonesLoader_of_array hkS hkindS)
  have hsz2 : (vp_cell (cA 0) (n, .inl f)).slots.size = n := arrV_size _ _ _
  have hcellE : ({ cls := (vp_cell (cA 0) (n, .inl f)).cls, slots := (vp_cell (cA 0) (n, .inl f)).slots } : Cell) = vp_cell (cA 0) (n, .inl f) := rfl
  rw [hcellE, hsz2, e1, e2] at Y'
  generalize hH1 : H.push (vp_cell (cA 0) (n, .inl f)) = H1
  have z1 : H1.size = H.size + 1 := by rw [← hH1, Array.size_push]
  have e3 : H1[H.size]? = some (vp_cell (cA 0) (n, .inl f)) := by rw [← hH1, Array.getElem?_push_size]
  have o1 : ∀ q : Nat, q < H.size → H1[q]? = H[q]? := fun q hq => by rw [← hH1, Array.getElem?_push, if_neg (Nat.ne_of_lt hq)]
  have hzz := I.2.2
  obtain ⟨t, b1, b2⟩ := kk H1 (I.push (e := .inl (0, n, .inl f)) G.2.2.2.1 (by rw [← hzz]; exact e3) (by rw [z1, hzz]) (fun q hq => o1 q (by rw [hzz]; exact hq))) ((T.setVm vm').pushCell (vp_cell (cA 0) (n, .inl f))) (by rw [← hH1, ← hT]; rfl) Y'
  refine ⟨t, st t ?_, b2⟩
  rw [hcellE, hT, hzz]
  exact b1
-- ends
theorem r_iretR {v : Int32} (X : mX p m meth c s args cc nL (some .int) own) (hd : decode cc pc = .ok (.ireturn, 1)) : W p l e R s m args below meth c s.heap [] 0 0 (MQ below (mQR (some (.int v))) args s 0 0 (fun _ => False)) (F0 m pc ls [.int v]) :=
  W.iret X.ex X.by_ X.rt (fun t ht hW => ⟨rfl, ht⟩) (fun q hq => by cases hq) hd X.lk
theorem r_zretR {v : Int32} (X : mX p m meth c s args cc nL (some .boolean) own) (hv : v = 0 ∨ v = 1) (hd : decode cc pc = .ok (.ireturn, 1)) : W p l e R s m args below meth c s.heap [] 0 0 (MQ below (mQR (some (.int v))) args s 0 0 (fun _ => False)) (F0 m pc ls [.int v]) :=
  W.zret X.ex X.by_ X.rt (mn_nZ hv) (fun t ht hW => ⟨rfl, ht⟩) (fun q hq => by cases hq) hd X.lk
theorem r_lretR {v : Int64} (X : mX p m meth c s args cc nL (some .long) own) (hd : decode cc pc = .ok (.lreturn, 1)) : W p l e R s m args below meth c s.heap [] 0 0 (MQ below (mQR (some (.long v))) args s 0 0 (fun _ => False)) (F0 m pc ls [.long v]) :=
  W.lret X.ex X.by_ X.rt (fun t ht hW => ⟨rfl, ht⟩) (fun q hq => by cases hq) hd X.lk
theorem mrf_or (v : Option Nat) : va_rf v = .null ∨ ∃ a, va_rf v = .ref a := by
  cases v with
  | none => exact Or.inl rfl
  | some a => exact Or.inr ⟨a, rfl⟩
theorem r_aretR {v : Option Nat} {rt : FieldType} (X : mX p m meth c s args cc nL (some rt) own) (hrt : (∃ n, rt = .object n) ∨ ∃ t, rt = .array t) (hd : decode cc pc = .ok (.areturn, 1)) : W p l e R s m args below meth c s.heap [] 0 0 (MQ below (mQR (some (va_rf v))) args s 0 0 (fun _ => False)) (F0 m pc ls [va_rf v]) :=
  W.aret X.ex X.by_ X.rt hrt (mrf_or v) (fun t ht hW => ⟨rfl, ht⟩) (fun q hq => by cases hq) hd X.lk
theorem r_vretR (X : mX p m meth c s args cc nL none own) (hd : decode cc pc = .ok (.return_, 1)) : W p l e R s m args below meth c s.heap [] 0 0 (MQ below (mQR none) args s 0 0 (fun _ => False)) (F0 m pc ls []) :=
  W.vret X.ex X.by_ X.rt (fun t ht hW => ⟨rfl, ht⟩) (fun q hq => by cases hq) hd X.lk
theorem m_QW {v : Option Value} (I : mI D cA z0 s μ H locs s.heap.size) : ∀ t : State, t.heap = H → s.WarmedH t.vm → mQW D cA z0 v μ args s (.returned v) t :=
  fun t ht hW => ⟨rfl, by rw [ht]; exact I.1, by rw [ht]; exact I.2.2, I.2.1.F ht⟩
theorem m_QN {v : Option Value} (I : mI D cA z0 s μ H locs z) : ∀ t : State, t.heap = H → s.WarmedH t.vm → mQN D cA z0 v μ z args s (.returned v) t :=
  fun t ht hW => ⟨rfl, by rw [ht]; exact I.1, by rw [ht]; exact I.2.2, I.2.1.F ht⟩
theorem r_iretW {v : Int32} (X : mX p m meth c s args cc nL (some .int) own) (I : mI D cA z0 s μ H locs s.heap.size) (hd : decode cc pc = .ok (.ireturn, 1)) : W p l e R s m args below meth c H locs 0 0 (MQ below (mQW D cA z0 (some (.int v)) μ) args s 0 0 (mA z0)) (F0 m pc ls [.int v]) :=
  W.iret X.ex X.by_ X.rt (m_QW I) I.2.1.2.2 hd X.lk
theorem r_zretW {v : Int32} (X : mX p m meth c s args cc nL (some .boolean) own) (I : mI D cA z0 s μ H locs s.heap.size) (hv : v = 0 ∨ v = 1) (hd : decode cc pc = .ok (.ireturn, 1)) : W p l e R s m args below meth c H locs 0 0 (MQ below (mQW D cA z0 (some (.int v)) μ) args s 0 0 (mA z0)) (F0 m pc ls [.int v]) :=
  W.zret X.ex X.by_ X.rt (mn_nZ hv) (m_QW I) I.2.1.2.2 hd X.lk
theorem r_lretW {v : Int64} (X : mX p m meth c s args cc nL (some .long) own) (I : mI D cA z0 s μ H locs s.heap.size) (hd : decode cc pc = .ok (.lreturn, 1)) : W p l e R s m args below meth c H locs 0 0 (MQ below (mQW D cA z0 (some (.long v)) μ) args s 0 0 (mA z0)) (F0 m pc ls [.long v]) :=
  W.lret X.ex X.by_ X.rt (m_QW I) I.2.1.2.2 hd X.lk
theorem r_aretW {v : Option Nat} {rt : FieldType} (X : mX p m meth c s args cc nL (some rt) own) (I : mI D cA z0 s μ H locs s.heap.size) (hrt : (∃ n, rt = .object n) ∨ ∃ t, rt = .array t) (hd : decode cc pc = .ok (.areturn, 1)) : W p l e R s m args below meth c H locs 0 0 (MQ below (mQW D cA z0 (some (va_rf v)) μ) args s 0 0 (mA z0)) (F0 m pc ls [va_rf v]) :=
  W.aret X.ex X.by_ X.rt hrt (mrf_or v) (m_QW I) I.2.1.2.2 hd X.lk
theorem r_vretW (X : mX p m meth c s args cc nL none own) (I : mI D cA z0 s μ H locs s.heap.size) (hd : decode cc pc = .ok (.return_, 1)) : W p l e R s m args below meth c H locs 0 0 (MQ below (mQW D cA z0 none μ) args s 0 0 (mA z0)) (F0 m pc ls []) :=
  W.vret X.ex X.by_ X.rt (m_QW I) I.2.1.2.2 hd X.lk
theorem r_iretN {v : Int32} {k n : Nat} (X : mX p m meth c s args cc nL (some .int) own) (I : mI D cA z0 s μ H locs z) (hd : decode cc pc = .ok (.ireturn, 1)) : W p l e R s m args below meth c H locs k n (MQ below (mQN D cA z0 (some (.int v)) μ z) args s k n (mA z0)) (F0 m pc ls [.int v]) :=
  W.iret X.ex X.by_ X.rt (m_QN I) I.2.1.2.2 hd X.lk
theorem r_zretN {v : Int32} {k n : Nat} (X : mX p m meth c s args cc nL (some .boolean) own) (I : mI D cA z0 s μ H locs z) (hv : v = 0 ∨ v = 1) (hd : decode cc pc = .ok (.ireturn, 1)) : W p l e R s m args below meth c H locs k n (MQ below (mQN D cA z0 (some (.int v)) μ z) args s k n (mA z0)) (F0 m pc ls [.int v]) :=
  W.zret X.ex X.by_ X.rt (mn_nZ hv) (m_QN I) I.2.1.2.2 hd X.lk
theorem r_aretN {v : Option Nat} {rt : FieldType} {k n : Nat} (X : mX p m meth c s args cc nL (some rt) own) (I : mI D cA z0 s μ H locs z) (hrt : (∃ n, rt = .object n) ∨ ∃ t, rt = .array t) (hd : decode cc pc = .ok (.areturn, 1)) : W p l e R s m args below meth c H locs k n (MQ below (mQN D cA z0 (some (va_rf v)) μ z) args s k n (mA z0)) (F0 m pc ls [va_rf v]) :=
  W.aret X.ex X.by_ X.rt hrt (mrf_or v) (m_QN I) I.2.1.2.2 hd X.lk
theorem r_vretN {k n : Nat} (X : mX p m meth c s args cc nL none own) (I : mI D cA z0 s μ H locs z) (hd : decode cc pc = .ok (.return_, 1)) : W p l e R s m args below meth c H locs k n (MQ below (mQN D cA z0 none μ z) args s k n (mA z0)) (F0 m pc ls []) :=
  W.vret X.ex X.by_ X.rt (m_QN I) I.2.1.2.2 hd X.lk
end MRW
