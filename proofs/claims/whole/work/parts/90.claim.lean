/-! The start: what the Statement gives, in my words. -/
section ST
variable {s : State} {args : Array Value}
theorem st_cl (hts : ∀ w ∈ lw_tbl, w.before args s = true) (ci : Nat) : ∃ q : ClassId × (Nat → Nat), ∀ r : vw_C, mcl[ci]? = some r → u_Kn s r.1 r.2.1 r.2.2 q.1 q.2 := by
  have hm : ∀ w ∈ mT, w.before args s = true := fun w hw => hts w (List.mem_filter.mp hw).1
  have key : ∀ (C : String) (T : u_T) (n k : Nat), (∀ w ∈ u_ws C T n, w ∈ mT) → lw_tbl[k]? = some (.instantiable C n) → ∃ q : ClassId × (Nat → Nat), u_Kn s C T n q.1 q.2 := by
    intro C T n k h1 h2
    obtain ⟨cC, iS, h⟩ := u_known hm h1 (hts _ (List.mem_of_getElem? h2))
    exact ⟨(cC, iS), h⟩
  match ci with
  | 0 => obtain ⟨q, h⟩ := key "ColourLinker$Adjust" T_Adjust 5 458 in_Adjust (by decide +kernel); exact ⟨q, fun r hr => by cases hr; exact h⟩
  | 1 => obtain ⟨q, h⟩ := key "ColourLinker$Buffer" T_Buffer 2 100 in_Buffer (by decide +kernel); exact ⟨q, fun r hr => by cases hr; exact h⟩
  | 2 => obtain ⟨q, h⟩ := key "ColourLinker$Curve" T_Curve 2 294 in_Curve (by decide +kernel); exact ⟨q, fun r hr => by cases hr; exact h⟩
  | 3 => obtain ⟨q, h⟩ := key "ColourLinker$Curves" T_Curves 3 331 in_Curves (by decide +kernel); exact ⟨q, fun r hr => by cases hr; exact h⟩
  | 4 => obtain ⟨q, h⟩ := key "ColourLinker$Gray" T_Gray 3 350 in_Gray (by decide +kernel); exact ⟨q, fun r hr => by cases hr; exact h⟩
  | 5 => obtain ⟨q, h⟩ := key "ColourLinker$Grid" T_Grid 6 310 in_Grid (by decide +kernel); exact ⟨q, fun r hr => by cases hr; exact h⟩
  | 6 => obtain ⟨q, h⟩ := key "ColourLinker$LabXyz" T_LabXyz 2 119 in_LabXyz (by decide +kernel); exact ⟨q, fun r hr => by cases hr; exact h⟩
  | 7 => obtain ⟨q, h⟩ := key "ColourLinker$Link" T_Link 9 739 in_Link (by decide +kernel); exact ⟨q, fun r hr => by cases hr; exact h⟩
  | 8 => obtain ⟨q, h⟩ := key "ColourLinker$Matrix" T_Matrix 4 371 in_Matrix (by decide +kernel); exact ⟨q, fun r hr => by cases hr; exact h⟩
  | 9 => obtain ⟨q, h⟩ := key "ColourLinker$Profile" T_Profile 11 256 in_Profile (by decide +kernel); exact ⟨q, fun r hr => by cases hr; exact h⟩
  | 10 => obtain ⟨q, h⟩ := key "ColourLinker" T_CL 11 92 in_CL (by decide +kernel); exact ⟨q, fun r hr => by cases hr; exact h⟩
  | 11 => obtain ⟨q, h⟩ := key "ColourLinkerModel" T_Mo 21 829 in_Mo (by decide +kernel); exact ⟨q, fun r hr => by cases hr; exact h⟩
  | n + 12 => exact ⟨(0, fun _ => 0), fun r hr => by cases hr⟩
theorem st_pr (hts : ∀ w ∈ lw_tbl, w.before args s = true) {ty : FieldType} (k : Nat) (h : lw_tbl[k]? = some (.arrayClass ty)) (hp : va_RA s = va_RA s) : ∃ cA : ClassId, ArrOfT s cA ty ∧ s.vm.findClass ("[" ++ ty.toString) = some cA := by
  obtain ⟨cA, kA, comp, hfind, hk, hkind⟩ := Cond.arrayClass_spec (hts _ (List.mem_of_getElem? h))
  exact ⟨cA, fun n z => ⟨fun k h => (by cases h), kA, hk, comp, hkind⟩, hfind⟩
theorem st_ob (hts : ∀ w ∈ lw_tbl, w.before args s = true) {C : String} (k : Nat) (h : lw_tbl[k]? = some (.arrayOver (.object C))) : ∃ cA : ClassId, ArrOfT s cA (.object C) ∧ va_RA s cA (.object C) := by
  obtain ⟨comp, c, kk, h1, h2, h3, h4, h5⟩ := Cond.arrayOver_spec (hts _ (List.mem_of_getElem? h))
  exact ⟨c, fun n z => ⟨fun k h => (by cases h), kk, h3, comp, h4⟩, kk, comp, h3, h4, h1, h5⟩
end ST
set_option maxHeartbeats 4000000 in
set_option maxRecDepth 100000 in
theorem st_G {s : State} {b : Nat} (hts : ∀ w ∈ lw_tbl, w.before #[Value.ref b] s = true) (hgv : (Jvm.Cond.and given_1 narrow_1).before #[Value.ref b] s = true) : ∃ (D : va_G) (cA : Nat → ClassId) (dA : Nat), mG D cA dA s.heap.size s := by
  have hs := flat_of_before _ hgv
  have hA : ∀ a : Nat, a < s.heap.size → ¬ mA s.heap.size a := fun a h q => Nat.not_le.mpr h q
  obtain ⟨c0, a0, n0⟩ := st_pr hts (ty := .int) 113 (by decide +kernel) rfl
  obtain ⟨c1, a1, n1⟩ := st_pr hts (ty := .long) 389 (by decide +kernel) rfl
  obtain ⟨c2, a2, n2⟩ := st_pr hts (ty := .boolean) 898 (by decide +kernel) rfl
  obtain ⟨c3, a3, n3⟩ := st_ob hts (C := "ColourLinker$Profile") 115 (by decide +kernel)
  obtain ⟨c4, a4, n4⟩ := st_ob hts (C := "ColourLinker$Link") 117 (by decide +kernel)
  obtain ⟨c5, a5, n5⟩ := st_ob hts (C := "ColourLinker$Piece") 145 (by decide +kernel)
  obtain ⟨c6, a6, n6⟩ := st_ob hts (C := "ColourLinker$Curve") 291 (by decide +kernel)
  obtain ⟨c7, a7, n7⟩ := st_ob hts (C := "ColourLinker$Grid") 293 (by decide +kernel)
  have hlen := va_eqt (hs (.eq (.length (.static "ColourLinker" "D" "[I")) (.int 3)) (by decide +kernel))
  have e0 := va_eqt (hs (.eq (.elem (.static "ColourLinker" "D" "[I") (.int 0)) (.int 31595)) (by decide +kernel))
  have e1 := va_eqt (hs (.eq (.elem (.static "ColourLinker" "D" "[I") (.int 1)) (.int 32768)) (by decide +kernel))
  have e2 := va_eqt (hs (.eq (.elem (.static "ColourLinker" "D" "[I") (.int 2)) (.int 27030)) (by decide +kernel))
  obtain ⟨dA, hd, hT⟩ := va_Tof (A := mA s.heap.size) (N := 3) (f := fun i => .int (mDt i)) (by decide) (hs (.arrayOf (.static "ColourLinker" "D" "[I") .int) (by decide +kernel)) hlen (fun j hj => by
    have h : j = 0 ∨ j = 1 ∨ j = 2 := by omega
    rcases h with rfl | rfl | rfl
    · exact e0
    · exact e1
    · exact e2) hA
  have hZ : va_Z "ColourLinker" "D" "[I" (.ref dA) (mA s.heap.size) s s.heap := va_Zref (hts (.laysStatic "ColourLinker" "D" "[I") (List.mem_of_getElem? (i := 308) (by decide +kernel))) (hts (.initialized "ColourLinker") (List.mem_of_getElem? (i := 75) (by decide +kernel))) hd hA
  refine ⟨(fun ci => (Classical.choose (st_cl hts ci)).1, fun ci => (Classical.choose (st_cl hts ci)).2), fun k => match k with | 0 => c0 | 1 => c1 | 2 => c2 | 3 => c3 | 4 => c4 | 5 => c5 | 6 => c6 | _ => c7, dA, ?_, hZ, hT, Nat.le_refl _, ?_, ?_, ?_⟩
  · refine ⟨fun ci r hr => Classical.choose_spec (st_cl hts ci) r hr, ?_⟩
    intro k q hk
    match k, hk with
    | 0, hk => cases hk; exact ⟨a0, n0⟩
    | 1, hk => cases hk; exact ⟨a1, n1⟩
    | 2, hk => cases hk; exact ⟨a2, n2⟩
    | 3, hk => cases hk; exact ⟨a3, n3⟩
    | 4, hk => cases hk; exact ⟨a4, n4⟩
    | 5, hk => cases hk; exact ⟨a5, n5⟩
    | 6, hk => cases hk; exact ⟨a6, n6⟩
    | 7, hk => cases hk; exact ⟨a7, n7⟩
    | n + 8, hk => cases hk
  · intro w hw
    obtain ⟨h1, h2⟩ := List.mem_filter.mp hw
    exact va_Nw.of (mNK_tab h2) (hts w h1)
  · intro C hC
    simp only [mAO, List.mem_cons, List.not_mem_nil, or_false] at hC
    rcases hC with rfl | rfl | rfl | rfl | rfl
    · exact va_AO.of (hts (.arrayOver (.object "ColourLinker$Profile")) (List.mem_of_getElem? (i := 115) (by decide +kernel)))
    · exact va_AO.of (hts (.arrayOver (.object "ColourLinker$Link")) (List.mem_of_getElem? (i := 117) (by decide +kernel)))
    · exact va_AO.of (hts (.arrayOver (.object "ColourLinker$Piece")) (List.mem_of_getElem? (i := 145) (by decide +kernel)))
    · exact va_AO.of (hts (.arrayOver (.object "ColourLinker$Curve")) (List.mem_of_getElem? (i := 291) (by decide +kernel)))
    · exact va_AO.of (hts (.arrayOver (.object "ColourLinker$Grid")) (List.mem_of_getElem? (i := 293) (by decide +kernel)))
  · have h : ∀ q ∈ mNC, Cond.not (.castable q.1 q.2) ∈ flatC (Jvm.Cond.and given_1 narrow_1) := by decide +kernel
    exact fun q hq => va_Nc.of (hs _ (h q hq))
set_option maxHeartbeats 4000000 in
theorem whole_start {p : Program} {e : Env} {s : State} {m : MethodId} {below : List Frame} {meth : Method} {c : Code} (l : Launch) {b L : Nat} {xs : Nat → Int32} (hL : L ≤ 3072) (C0 : lw_At p s m meth c b L xs) : W p l e room_1 s m #[Value.ref b] below meth c s.heap [] 0 0 (lw_Z below #[Value.ref b] s) (entryFrame m ([Value.ref b] : List Value).toArray 4) := by
  obtain ⟨hx, hb, hr, hml, hown, hts, hX, hbl, hlk, hgv⟩ := C0
  obtain ⟨D, cA, dA, G⟩ := st_G hts hgv
  obtain ⟨r, hf, hr1, hrz, hrw⟩ := pure_law L xs s.heap.size hL
  have X : mX p m meth c s #[Value.ref b] code 4 (some .boolean) R_law := ⟨hx, hb, hml, hown, fun w hw => hts w (List.mem_filter.mp hw).1, hlk, hr⟩
  have hP : mP D mcl cA s.heap.size (fun _ => none) s.heap := fun a e h => by cases h
  refine m_entry (lv := [(0, .ref b)]) (Nat.le_of_ble_eq_true rfl) rfl (fun ls hl => ?_)
  have h := w_Law_law (p := p) (l := l) (e := e) (below := below) hX hbl (fun q => Nat.not_le.mpr hbl q) (Nat.le_refl _) hr1 hrz hrw X G (Nat.le_refl 0) (mI.start hP) hf hl
  rw [Nat.sub_self s.heap.size] at h
  exact h

set_option maxHeartbeats 4000000 in
theorem lw_walk (l : Launch) (b : Addr) (xs : List Int32) : MetFree l x (headSpec (Jvm.Cond.code x code maxLocals ret :: tables_1) room_1) (lw_P b xs) (fun _ _ _ _ _ => True) lw_Q := by
  refine MetFree.of_bodyS (code := code) (maxLocals := maxLocals) (ret := ret) (by decide) ?_ ?_
  · intro args s m h hn
    obtain ⟨meth, c, h1, h2, h3, h4, h5, h6, -, -⟩ := Cond.code_spec hn (atoms_spec (ws := Jvm.Cond.code x code maxLocals ret :: tables_1) h _ List.mem_cons_self)
    exact ⟨meth, c, h1, h2, h3, h4, h5, h6⟩
  · intro p e s m args below meth c s₁ B hml0 hP _
    obtain ⟨rfl, hx, hbd, hgv⟩ := hP
    obtain ⟨scr, harrAt, hlist, hof, hsmall⟩ := hx
    obtain ⟨hcb, hkn, -, -⟩ := State.arrayAt?_spec harrAt
    have hown : s.vm.findClass R_law = some m.cls := findClass_of_methodNamed B.named
    have hts0 : ∀ c ∈ (Jvm.Cond.code x code maxLocals ret :: tables_1), c.before #[Value.ref b] s = true := atoms_spec (ws := Jvm.Cond.code x code maxLocals ret :: tables_1) B.pre
    have hts : ∀ w ∈ lw_tbl, w.before #[Value.ref b] s = true := k2_hts_sels lw_privs (fun w hw => hts0 w (List.mem_cons_of_mem _ hw)) lw_privs_ok
    have hml : c.maxLocals = 4 := B.maxLocals_eq (hts0 _ List.mem_cons_self)
    have X₀ : Stand p l e room_1 s m #[Value.ref b] below meth c s₁ [] 0 0 := Stand.of_body B
    have hh0 : s₁.heap = s.heap := by rw [B.state]; rfl
    have hsz : scr.slots.size = xs.length := by rw [← Array.length_toList, hlist, List.length_map]
    have hval : ∀ j : Nat, j < xs.length → scr.slots[j]? = some (.int (xs.getD j 0)) := fun j hj => by
      rw [← Array.getElem?_toList, hlist]
      simp [hj]
    have hbl : b < s.heap.size := (Array.getElem?_eq_some_iff.mp hcb).1
    have hX : va_X b xs.length (fun j => xs.getD j 0) s s.heap := ⟨scr, hcb, hof, hkn, hsz, hval⟩
    have K : W p l e room_1 s m #[Value.ref b] below meth c s₁.heap [] 0 0 (lw_Z below #[Value.ref b] s) (entryFrame m ([Value.ref b] : List Value).toArray 4) := by
      rw [hh0]
      exact whole_start l hbd ⟨B.exec, B.bytes, B.returns, hml, hown, hts, hX, hbl, B.notSynchronized, hgv⟩
    obtain ⟨t, a1, o, b1, b2, b3⟩ := K s₁ rfl X₀
    exact ⟨t, o, a1, b1, b2, b3⟩
theorem lw_pre_spec {args : Array Value} {s : State} (h : (Jvm.Cond.and given_1 narrow_1).before args s = true) (hr : rest_1_c.before args s = true) : ∃ (b : Addr) (xs : List Int32), lw_P b xs args s := by
  have hs := flat_of_before _ h
  have hq := flat_of_before _ hr
  have hc : (Cond.count 1).before args s = true := hs _ (by decide +kernel)
  have harr : (Cond.arrayOf (.arg 0) .int).before args s = true := hs _ (by decide +kernel)
  have hle : (Cond.le (.length (.arg 0)) (.int 3072)).before args s = true := hs _ (by decide +kernel)
  have hlen : (Cond.isInt (.length (.arg 0))).before args s = true := hq _ (by decide +kernel)
  have hall : (Cond.all (.arg 0) (.isInt (.elem (.arg 0) (.index 0)))).before args s = true := hq _ (by decide +kernel)
  obtain ⟨b, xs, hb, hx⟩ := State.ints_of_pre rfl harr hlen hall
  have hsm : xs.length < 2 ^ 31 := hx.choose_spec.2.2.2
  have hev : (Term.length (.arg 0)).eval args s none [] s = some (.int xs.length.toInt32) := hx.length_eval hb
  have hv := Cond.le_ints hev (show (Term.int 3072).eval args s none [] s = some (.int 3072) from rfl)
  have hd : xs.length.toInt32 ≤ 3072 := by
    simpa [Cond.before, Cond.holds, hv] using hle
  have hN : xs.length ≤ 3072 := (Int32.ofNat_le_ofNat hsm (by decide)).mp (show Int32.ofNat xs.length ≤ Int32.ofNat 3072 from hd)
  exact ⟨b, xs, Cond.one_arg hc (show args[0]? = some (.ref b) from hb), hx, hN, h⟩
theorem lw_comes (l : Launch) : Comes l x (Jvm.Cond.code x code maxLocals ret :: tables_1) room_1 (fun tb e args s => Calls_1 tb e args s ∧ rest_1 tb e args s ∧ Pre_1 tb e args s)
    (fun _ _ args s o t => lw_Q args s o t) := by
  intro p e ha hc hk s m args below hf hfit hheap happ hpre
  obtain ⟨b, xs, hP⟩ := lw_pre_spec hpre.2.2 hpre.2.1
  obtain ⟨k, o, h1, h2, h3, hQ⟩ := lw_walk l b xs p e ha hc hk s m args below hf ((Spec.applies_iff_loose hf).mp happ).1 hP trivial
  exact ⟨k, o, h1, h2, h3, hQ⟩
theorem lw_frame {s t : State} {o : Outcome} {args : Array Value} (h : Framed s o t [] 600000 7302250) :
    Framed s o t (fieldLocs frame_1_writes args s ++ arrayLocs frame_1_arrays args s ++ staticLocs frame_1_statics s) 600000 7302250 := h
theorem lw_limb (L : Cond) (hL : ∀ (args : Array Value) (s t : State), L.after args s (.returned (some (.int 1))) t = true) :
    ArmFor flags0 classFile x code maxLocals ret World_1 tables_1 room_1 Calls_1 rest_1 Pre_1
      (fun tb e a s o t => postC L tb e a s o t ∧ Framed s o t (fieldLocs frame_1_writes a s ++ arrayLocs frame_1_arrays a s ++ staticLocs frame_1_statics s) 600000 7302250) := by
  intro l _ _ _ p e ha hc hk s m args below hf hfit hheap happ hpre
  obtain ⟨k, o, h1, h2, h3, rfl, hF⟩ := lw_comes l p e ha hc hk s m args below hf hfit hheap happ hpre
  exact ⟨k, _, h1, h2, h3, hL args s _, lw_frame hF⟩
theorem i_vc : Claimed_1_1 ∧ Claimed_1_2 := ⟨lw_limb limb_1_1 (fun args s t => by simp [limb_1_1, Cond.after, Cond.holds, Cond.value]), lw_limb limb_1_2 (fun args s t => Cond.after_iff.mpr (by
  first | (rw [show limb_1_2 = Cond.eq .result (.int 1) from rfl, Cond.eq_ints (x := 1) (y := 1) rfl rfl]; simp; done) | (simp [limb_1_2, Cond.value, Term.eval]; done)))⟩
