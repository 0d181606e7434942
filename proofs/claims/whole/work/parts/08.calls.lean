/-! Calls: a run of the callee by its contract, and what is known behind it. -/
def mCd (y : MethodName) (k : Nat) : Prop := y.cls ≠ "java/lang/invoke/MethodHandle" ∧ y.cls ≠ "java/lang/invoke/VarHandle" ∧ (parseMethodDescriptor y.desc).map (fun d => d.parameters.length) = some k
def mCV (y : MethodName) (b : ByteArray) (n : Nat) (rt : Option FieldType) (k : Nat) : Prop := Cond.code y b n rt ∈ mT ∧ Cond.initialized y.cls ∈ mT ∧ mCd y k ∧ Cond.instanceMethod y ∈ mT ∧ Cond.selects y.cls y y ∈ mT
def mCS (y : MethodName) (b : ByteArray) (n : Nat) (rt : Option FieldType) (k : Nat) : Prop := Cond.code y b n rt ∈ mT ∧ Cond.initialized y.cls ∈ mT ∧ mCd y k ∧ Cond.static y ∈ mT
def mCI (y : MethodName) (b : ByteArray) (n : Nat) (k : Nat) : Prop := Cond.code y b n none ∈ mT ∧ Cond.initialized y.cls ∈ mT ∧ mCd y k ∧ Cond.instanceMethod y ∈ mT ∧ y.name = "<init>"
theorem m_cat8 {rest : List Value} (h : rest.length ≤ 4) : (rest.map fun v => v.category).sum ≤ 8 := by
  have key : ∀ l : List Value, (l.map fun v => v.category).sum ≤ 2 * l.length := by
    intro l
    induction l with
    | nil => simp
    | cons v t ih =>
      simp only [List.map_cons, List.sum_cons, List.length_cons]
      rcases lv_cat v with h | h <;> omega
  have := key rest
  omega
section MCL
variable {p : Program} {l : Launch} {e : Env} {R : Room} {s : State} {m : MethodId} {args : Array Value} {below : List Frame} {meth : Method} {c : Code} {H : Heap} {locs : List Loc} {cells slots : Nat} {Q : State → Prop}
variable {cc : ByteArray} {pc nL : Nat} {ls : Array Slot} {rest : List Value} {D : va_G} {cA : Nat → ClassId} {dA z0 z : Nat} {own : String} {ret : Option FieldType} {μ μ' : mM}
variable {y : MethodName} {b : ByteArray} {n k ix mc ms : Nat} {rt : Option FieldType} {rm : Room} {B : State → Prop} {Qc : Array Value → State → Outcome → State → Prop} {free : Addr → Prop} {As st : List Value} {a : Nat} {r : Option Nat}
theorem m_pre (G : mG D cA dA z0 s) (I : mI D cA z0 s μ H locs z) : ∀ U : State, U.heap = H → s.WarmedH U.vm → mPr D cA dA z0 μ U := fun U hU hW => ⟨G.move I.2.1 hU hW, by rw [hU]; exact I.1⟩
theorem m_preN (G : mG D cA dA z0 s) (I : mI D cA z0 s μ H locs z) : ∀ U : State, U.heap = H → s.WarmedH U.vm → mPn D cA dA z0 μ z U := fun U hU hW => ⟨G.move I.2.1 hU hW, by rw [hU]; exact I.1, by rw [hU]; exact I.2.2⟩
theorem m_B (X : mX p m meth c s args cc nL ret own) (hc : Cond.code y b n rt ∈ mT) (hini : Cond.initialized y.cls ∈ mT) (hd : mCd y k) (hl : Cond.methodLink own ix y ∈ mT) (hrc : rm.cells = mc) (hrs : rm.slots = ms) (hR : rm.frames + 1 ≤ R.frames ∧ 8 + (n + 11) + rm.locals ≤ R.locals) : CallB R s args own ix y b n rt (mW y b n rt) rm mc ms k :=
  callB_of k X.2.2.2.2.1 (mT_good hc) rfl hrc hrs (X.w hini) (X.w hl) hd hR
theorem m_BN (X : mX p m meth c s args cc nL ret own) (G : mG D cA dA z0 s) {host : String} (hc : Cond.code y b n rt ∈ mT) (hini : Cond.initialized y.cls ∈ mT) (hd : mCd y k) (hl : Cond.methodLinkNest own ix y host ∈ mNW) (hrc : rm.cells = mc) (hrs : rm.slots = ms) (hR : rm.frames + 1 ≤ R.frames ∧ 8 + (n + 11) + rm.locals ≤ R.locals) : va_CN R s args own ix y host b n rt (mW y b n rt) rm mc ms k :=
  va_cnB k X.2.2.2.2.1 (mT_good hc) rfl hrc hrs (G.2.2.2.2.1 _ hl) (X.w hini) hd hR
theorem m_runV (X : mX p m meth c s args cc nL ret own) (G : mG D cA dA z0 s) (I : mI D cA z0 s μ H locs z) (hC : mCV y b n rt k) (hl : Cond.methodLink own ix y ∈ mT) (hM : Met l y (mW y b n rt) rm (va_Pc (.ref a :: As) B) Qc mc ms free) (hbl : FrameBlind (va_Pc (.ref a :: As) B)) (hpre : ∀ U : State, U.heap = H → s.WarmedH U.vm → B U) {ci : Nat} {fs : List Value} (hm : μ a = some (.inr (ci, fs))) (hci : mcl[ci]?.map (fun q => q.1) = some y.cls) (hr : r = some a) (hst : st = As.reverse ++ va_rf r :: rest) (hn : As.length = k) (hls : ls.size = nL) (hW : rest.length ≤ 4) (hrc : rm.cells = mc) (hrs : rm.slots = ms) (hR : rm.frames + 1 ≤ R.frames ∧ 8 + (n + 11) + rm.locals ≤ R.locals) (hf : cells + mc ≤ R.cells ∧ slots + ms ≤ R.slots) (hd : decode cc pc = .ok (.invokevirtual ix, 3)) :
    va_Run p l e R s m args below meth c H locs cells slots mc ms (F0 m pc ls st) rest (Qc (Value.ref a :: As).toArray) free := by
  subst hr
  obtain ⟨hc, hini, hdd, hin, hse⟩ := hC
  exact va_runV X.fx hM ⟨m_B X hc hini hdd hl hrc hrs hR, X.w hin, X.w hse⟩ ⟨hbl, m_recv G I hm hci, fun U hU hW2 => ⟨rfl, hpre U hU hW2⟩⟩ rfl hn hls hst (lv_room (m_cat8 hW)) hd hf
theorem m_runVN (X : mX p m meth c s args cc nL ret own) (G : mG D cA dA z0 s) (I : mI D cA z0 s μ H locs z) (hC : mCV y b n rt k) {host : String} (hl : Cond.methodLinkNest own ix y host ∈ mNW) (hM : Met l y (mW y b n rt) rm (va_Pc (.ref a :: As) B) Qc mc ms free) (hbl : FrameBlind (va_Pc (.ref a :: As) B)) (hpre : ∀ U : State, U.heap = H → s.WarmedH U.vm → B U) {ci : Nat} {fs : List Value} (hm : μ a = some (.inr (ci, fs))) (hci : mcl[ci]?.map (fun q => q.1) = some y.cls) (hr : r = some a) (hst : st = As.reverse ++ va_rf r :: rest) (hn : As.length = k) (hls : ls.size = nL) (hW : rest.length ≤ 4) (hrc : rm.cells = mc) (hrs : rm.slots = ms) (hR : rm.frames + 1 ≤ R.frames ∧ 8 + (n + 11) + rm.locals ≤ R.locals) (hf : cells + mc ≤ R.cells ∧ slots + ms ≤ R.slots) (hd : decode cc pc = .ok (.invokevirtual ix, 3)) :
    va_Run p l e R s m args below meth c H locs cells slots mc ms (F0 m pc ls st) rest (Qc (Value.ref a :: As).toArray) free := by
  subst hr
  obtain ⟨hc, hini, hdd, hin, hse⟩ := hC
  exact va_runVN X.fx hM ⟨m_BN X G hc hini hdd hl hrc hrs hR, X.w hin, X.w hse⟩ ⟨hbl, m_recv G I hm hci, fun U hU hW2 => ⟨rfl, hpre U hU hW2⟩⟩ rfl hn hls hst (lv_room (m_cat8 hW)) hd hf
theorem m_runS (X : mX p m meth c s args cc nL ret own) (hC : mCS y b n rt k) (hl : Cond.methodLink own ix y ∈ mT) (hM : Met l y (mW y b n rt) rm (va_Pc As B) Qc mc ms free) (hbl : FrameBlind (va_Pc As B)) (hpre : ∀ U : State, U.heap = H → s.WarmedH U.vm → B U) (hst : st = As.reverse ++ rest) (hn : As.length = k) (hls : ls.size = nL) (hW : rest.length ≤ 4) (hrc : rm.cells = mc) (hrs : rm.slots = ms) (hR : rm.frames + 1 ≤ R.frames ∧ 8 + (n + 11) + rm.locals ≤ R.locals) (hf : cells + mc ≤ R.cells ∧ slots + ms ≤ R.slots) (hd : decode cc pc = .ok (.invokestatic ix, 3)) :
    va_Run p l e R s m args below meth c H locs cells slots mc ms (F0 m pc ls st) rest (Qc As.toArray) free := by
  obtain ⟨hc, hini, hdd, hin⟩ := hC
  exact va_runS X.fx hM ⟨m_B X hc hini hdd hl hrc hrs hR, X.w hin⟩ ⟨hbl, fun U hU hW2 => ⟨rfl, hpre U hU hW2⟩⟩ rfl hn hls hst (lv_room (m_cat8 hW)) hd hf
theorem m_runSN (X : mX p m meth c s args cc nL ret own) (G : mG D cA dA z0 s) (hC : mCS y b n rt k) {host : String} (hl : Cond.methodLinkNest own ix y host ∈ mNW) (hM : Met l y (mW y b n rt) rm (va_Pc As B) Qc mc ms free) (hbl : FrameBlind (va_Pc As B)) (hpre : ∀ U : State, U.heap = H → s.WarmedH U.vm → B U) (hst : st = As.reverse ++ rest) (hn : As.length = k) (hls : ls.size = nL) (hW : rest.length ≤ 4) (hrc : rm.cells = mc) (hrs : rm.slots = ms) (hR : rm.frames + 1 ≤ R.frames ∧ 8 + (n + 11) + rm.locals ≤ R.locals) (hf : cells + mc ≤ R.cells ∧ slots + ms ≤ R.slots) (hd : decode cc pc = .ok (.invokestatic ix, 3)) :
    va_Run p l e R s m args below meth c H locs cells slots mc ms (F0 m pc ls st) rest (Qc As.toArray) free := by
  obtain ⟨hc, hini, hdd, hin⟩ := hC
  exact va_runSN X.fx hM ⟨m_BN X G hc hini hdd hl hrc hrs hR, X.w hin, trivial⟩ ⟨hbl, fun U hU hW2 => ⟨rfl, hpre U hU hW2⟩⟩ rfl hn hls hst (lv_room (m_cat8 hW)) hd hf
theorem m_runI (X : mX p m meth c s args cc nL ret own) (hC : mCI y b n k) (hl : Cond.methodLink own ix y ∈ mT) (hM : Met l y (mW y b n none) rm (va_Pc (.ref a :: As) B) Qc mc ms free) (hbl : FrameBlind (va_Pc (.ref a :: As) B)) (hpre : ∀ U : State, U.heap = H → s.WarmedH U.vm → B U) (hr : r = some a) (hst : st = As.reverse ++ va_rf r :: rest) (hn : As.length = k) (hls : ls.size = nL) (hW : rest.length ≤ 4) (hrc : rm.cells = mc) (hrs : rm.slots = ms) (hR : rm.frames + 1 ≤ R.frames ∧ 8 + (n + 11) + rm.locals ≤ R.locals) (hf : cells + mc ≤ R.cells ∧ slots + ms ≤ R.slots) (hd : decode cc pc = .ok (.invokespecial ix, 3)) :
    va_Run p l e R s m args below meth c H locs cells slots mc ms (F0 m pc ls st) rest (Qc (Value.ref a :: As).toArray) free := by
  subst hr
  obtain ⟨hc, hini, hdd, hin, hnm⟩ := hC
  exact va_runI X.fx hM ⟨m_B X hc hini hdd hl hrc hrs hR, hnm, X.w hin⟩ ⟨hbl, fun U hU hW2 => ⟨rfl, hpre U hU hW2⟩⟩ rfl hn hls hst (lv_room (m_cat8 hW)) hd hf
theorem m_runIN (X : mX p m meth c s args cc nL ret own) (G : mG D cA dA z0 s) (hC : mCI y b n k) {host : String} (hl : Cond.methodLinkNest own ix y host ∈ mNW) (hM : Met l y (mW y b n none) rm (va_Pc (.ref a :: As) B) Qc mc ms free) (hbl : FrameBlind (va_Pc (.ref a :: As) B)) (hpre : ∀ U : State, U.heap = H → s.WarmedH U.vm → B U) (hr : r = some a) (hst : st = As.reverse ++ va_rf r :: rest) (hn : As.length = k) (hls : ls.size = nL) (hW : rest.length ≤ 4) (hrc : rm.cells = mc) (hrs : rm.slots = ms) (hR : rm.frames + 1 ≤ R.frames ∧ 8 + (n + 11) + rm.locals ≤ R.locals) (hf : cells + mc ≤ R.cells ∧ slots + ms ≤ R.slots) (hd : decode cc pc = .ok (.invokespecial ix, 3)) :
    va_Run p l e R s m args below meth c H locs cells slots mc ms (F0 m pc ls st) rest (Qc (Value.ref a :: As).toArray) free := by
  subst hr
  obtain ⟨hc, hini, hdd, hin, hnm⟩ := hC
  exact va_runIN X.fx hM ⟨m_BN X G hc hini hdd hl hrc hrs hR, hnm, X.w hin⟩ ⟨hbl, fun U hU hW2 => ⟨rfl, hpre U hU hW2⟩⟩ rfl hn hls hst (lv_room (m_cat8 hW)) hd hf
/-- a call of an abstract method x of owner, on an object of class y.cls -/
theorem m_runA (X : mX p m meth c s args cc nL ret own) (G : mG D cA dA z0 s) (I : mI D cA z0 s μ H locs z) {x : MethodName} {owner : String} (hc : Cond.code y b n rt ∈ mT) (hini : Cond.initialized y.cls ∈ mT) (hin : Cond.instanceMethod y ∈ mT) (hse : Cond.selects y.cls x y ∈ mT) (hl : Cond.methodLink own ix x ∈ mT) (hsm : Cond.sameMethod x.cls owner x.name x.desc ∈ mT) (hde : Cond.declares ⟨owner, x.name, x.desc⟩ ∈ mNW) (hdd : owner ≠ "java/lang/invoke/MethodHandle" ∧ owner ≠ "java/lang/invoke/VarHandle" ∧ (parseMethodDescriptor x.desc).map (fun d => d.parameters.length) = some k) (hM : Met l y (mW y b n rt) rm (va_Pc (.ref a :: As) B) Qc mc ms free) (hbl : FrameBlind (va_Pc (.ref a :: As) B)) (hpre : ∀ U : State, U.heap = H → s.WarmedH U.vm → B U) {ci : Nat} {fs : List Value} (hm : μ a = some (.inr (ci, fs))) (hci : mcl[ci]?.map (fun q => q.1) = some y.cls) (hr : r = some a) (hst : st = As.reverse ++ va_rf r :: rest) (hn : As.length = k) (hls : ls.size = nL) (hW : rest.length ≤ 4) (hrc : rm.cells = mc) (hrs : rm.slots = ms) (hR : rm.frames + 1 ≤ R.frames ∧ 8 + (n + 11) + rm.locals ≤ R.locals) (hf : cells + mc ≤ R.cells ∧ slots + ms ≤ R.slots) (hd : decode cc pc = .ok (.invokevirtual ix, 3)) :
    va_Run p l e R s m args below meth c H locs cells slots mc ms (F0 m pc ls st) rest (Qc (Value.ref a :: As).toArray) free := by
  subst hr
  have hG : GoodIn mT (va_wsU own ix y.cls owner x y (mW y b n rt)) := by
    intro w hw
    have hg : ∀ w, w ∈ mT → w ∈ mT ∧ ((w.onTables && w.keeps) = true ∨ ∃ ty, w = .arrayClass ty) := fun w h => ⟨h, good_of_word (List.mem_filter.mp h).2⟩
    unfold va_wsU at hw
    rcases List.mem_append.mp hw with h | h
    · simp only [List.mem_cons, List.not_mem_nil, or_false] at h
      rcases h with rfl | rfl | rfl | rfl | rfl
      · exact hg _ hl
      · exact hg _ hsm
      · exact hg _ hse
      · exact hg _ hin
      · exact hg _ hini
    · exact mT_good hc w h
  exact va_runU X.fx hM (va_cwA k X.2.2.2.2.1 hG rfl hrc hrs (G.2.2.2.2.1 _ hde) hdd hR) ⟨hbl, m_recv G I hm hci, fun U hU hW2 => ⟨rfl, hpre U hU hW2⟩⟩ rfl hn hls hst (lv_room (m_cat8 hW)) hd hf
-- behind a call
theorem m_caR {v : Value} {aa : Array Value} (hr : va_Run p l e R s m args below meth c H locs cells slots 0 0 (F0 m pc ls st) rest (mQR (some v) aa) (fun _ => False)) (kk : W p l e R s m args below meth c H locs cells slots Q (F0 m (pc + 3) ls (v :: rest))) : W p l e R s m args below meth c H locs cells slots Q (F0 m pc ls st) := by
  intro T hT X
  obtain ⟨v', st₀, t, T', L, h0, X', hL, e1, e2, ⟨hv, hh⟩, go⟩ := hr T hT X
  cases hv
  have hLn : L = [] := List.eq_nil_iff_forall_not_mem.mpr hL
  subst hLn
  rw [List.append_nil] at X'
  obtain ⟨t2, a1, b1⟩ := kk T' (by rw [e1, hh, h0]) X'
  exact ⟨t2, go t2 a1, b1⟩
theorem m_caRv {aa : Array Value} (hr : va_Run p l e R s m args below meth c H locs cells slots 0 0 (F0 m pc ls st) rest (mQR none aa) (fun _ => False)) (kk : W p l e R s m args below meth c H locs cells slots Q (F0 m (pc + 3) ls rest)) : W p l e R s m args below meth c H locs cells slots Q (F0 m pc ls st) := by
  intro T hT X
  obtain ⟨v', st₀, t, T', L, h0, X', hL, e1, e2, ⟨hv, hh⟩, go⟩ := hr T hT X
  cases hv
  have hLn : L = [] := List.eq_nil_iff_forall_not_mem.mpr hL
  subst hLn
  rw [List.append_nil] at X'
  obtain ⟨t2, a1, b1⟩ := kk T' (by rw [e1, hh, h0]) X'
  exact ⟨t2, go t2 a1, b1⟩
theorem m_aft {st₀ t T' : State} {L : List Loc} {z1 : Nat} (I : mI D cA z0 s μ H locs z) (h0 : st₀.heap = H) (e1 : T'.heap = t.heap) (hL : ∀ q ∈ L, mA z0 q.base) (hP : mP D mcl cA z0 μ' t.heap) (hz : t.heap.size = z1) (hF : va_F (mA z0) st₀ t) : mI D cA z0 s μ' T'.heap (locs ++ L) z1 :=
  ⟨by rw [e1]; exact hP, ⟨by rw [e1]; exact Nat.le_trans I.2.1.1 (by rw [← h0]; exact hF.1), fun q g1 g2 => by rw [e1, hF.2 q (by rw [h0]; exact Nat.lt_of_lt_of_le g1 I.2.1.1) g2, h0]; exact I.2.1.2.1 q g1 g2, fun q hq => by
    rcases List.mem_append.mp hq with h | h
    · exact I.2.1.2.2 q h
    · exact hL q h⟩, by rw [e1]; exact hz⟩
theorem m_caW {v : Value} {aa : Array Value} (hr : va_Run p l e R s m args below meth c H locs cells slots 0 0 (F0 m pc ls st) rest (mQW D cA z0 (some v) μ' aa) (mA z0)) (I : mI D cA z0 s μ H locs z) (kk : ∀ (H1 : Heap) (locs1 : List Loc), mI D cA z0 s μ' H1 locs1 z → W p l e R s m args below meth c H1 locs1 cells slots Q (F0 m (pc + 3) ls (v :: rest))) : W p l e R s m args below meth c H locs cells slots Q (F0 m pc ls st) := by
  intro T hT X
  obtain ⟨v', st₀, t, T', L, h0, X', hL, e1, e2, ⟨hv, hP, hz, hF⟩, go⟩ := hr T hT X
  cases hv
  obtain ⟨t2, a1, b1⟩ := kk T'.heap (locs ++ L) (m_aft I h0 e1 hL hP (by rw [hz, h0]; exact I.2.2) hF) T' rfl X'
  exact ⟨t2, go t2 a1, b1⟩
theorem m_caWv {aa : Array Value} (hr : va_Run p l e R s m args below meth c H locs cells slots 0 0 (F0 m pc ls st) rest (mQW D cA z0 none μ' aa) (mA z0)) (I : mI D cA z0 s μ H locs z) (kk : ∀ (H1 : Heap) (locs1 : List Loc), mI D cA z0 s μ' H1 locs1 z → W p l e R s m args below meth c H1 locs1 cells slots Q (F0 m (pc + 3) ls rest)) : W p l e R s m args below meth c H locs cells slots Q (F0 m pc ls st) := by
  intro T hT X
  obtain ⟨v', st₀, t, T', L, h0, X', hL, e1, e2, ⟨hv, hP, hz, hF⟩, go⟩ := hr T hT X
  cases hv
  obtain ⟨t2, a1, b1⟩ := kk T'.heap (locs ++ L) (m_aft I h0 e1 hL hP (by rw [hz, h0]; exact I.2.2) hF) T' rfl X'
  exact ⟨t2, go t2 a1, b1⟩
theorem m_caN {v : Value} {aa : Array Value} {z1 w w1 ws : Nat} (hr : va_Run p l e R s m args below meth c H locs (z - s.heap.size) (w - ws) (z1 - z) (w1 - w) (F0 m pc ls st) rest (mQN D cA z0 (some v) μ' z1 aa) (mA z0)) (I : mI D cA z0 s μ H locs z) (hw : ws ≤ w) (hz1 : z ≤ z1) (hw1 : w ≤ w1) (kk : ∀ (H1 : Heap) (locs1 : List Loc), mI D cA z0 s μ' H1 locs1 z1 → W p l e R s m args below meth c H1 locs1 (z1 - s.heap.size) (w1 - ws) Q (F0 m (pc + 3) ls (v :: rest))) : W p l e R s m args below meth c H locs (z - s.heap.size) (w - ws) Q (F0 m pc ls st) := by
  intro T hT X
  have hsz : s.heap.size ≤ z := by have h1 := I.2.1.1; have h2 := I.2.2; omega
  have g1 : z - s.heap.size + (z1 - z) = z1 - s.heap.size := by omega
  have g2 : w - ws + (w1 - w) = w1 - ws := by omega
  obtain ⟨v', st₀, t, T', L, h0, X', hL, e1, e2, ⟨hv, hP, hz, hF⟩, go⟩ := hr T hT X
  cases hv
  rw [g1, g2] at X'
  obtain ⟨t2, a1, b1⟩ := kk T'.heap (locs ++ L) (m_aft I h0 e1 hL hP hz hF) T' rfl X'
  exact ⟨t2, go t2 a1, b1⟩
theorem m_caNv {aa : Array Value} {z1 w w1 ws : Nat} (hr : va_Run p l e R s m args below meth c H locs (z - s.heap.size) (w - ws) (z1 - z) (w1 - w) (F0 m pc ls st) rest (mQN D cA z0 none μ' z1 aa) (mA z0)) (I : mI D cA z0 s μ H locs z) (hw : ws ≤ w) (hz1 : z ≤ z1) (hw1 : w ≤ w1) (kk : ∀ (H1 : Heap) (locs1 : List Loc), mI D cA z0 s μ' H1 locs1 z1 → W p l e R s m args below meth c H1 locs1 (z1 - s.heap.size) (w1 - ws) Q (F0 m (pc + 3) ls rest)) : W p l e R s m args below meth c H locs (z - s.heap.size) (w - ws) Q (F0 m pc ls st) := by
  intro T hT X
  have hsz : s.heap.size ≤ z := by have h1 := I.2.1.1; have h2 := I.2.2; omega
  have g1 : z - s.heap.size + (z1 - z) = z1 - s.heap.size := by omega
  have g2 : w - ws + (w1 - w) = w1 - ws := by omega
  obtain ⟨v', st₀, t, T', L, h0, X', hL, e1, e2, ⟨hv, hP, hz, hF⟩, go⟩ := hr T hT X
  cases hv
  rw [g1, g2] at X'
  obtain ⟨t2, a1, b1⟩ := kk T'.heap (locs ++ L) (m_aft I h0 e1 hL hP hz hF) T' rfl X'
  exact ⟨t2, go t2 a1, b1⟩
end MCL
theorem mc_int (x : Int32) : (Value.int x).category = 1 := rfl
theorem mc_long (x : Int64) : (Value.long x).category = 2 := rfl
theorem mc_ref (a : Nat) : (Value.ref a).category = 1 := rfl
theorem m_entry {p : Program} {l : Launch} {e : Env} {R : Room} {s : State} {m : MethodId} {args : Array Value} {below : List Frame} {meth : Method} {c : Code} {H : Heap} {locs : List Loc} {cells slots : Nat} {Q : State → Prop} {vs : List Value} {n : Nat} {lv : List (Nat × Value)} (h : (lg_sl vs).length ≤ n) (hlv : lv_args 0 vs = lv) (k : ∀ ls : Array Slot, lv_has ls n lv → W p l e R s m args below meth c H locs cells slots Q (F0 m 0 ls [])) : W p l e R s m args below meth c H locs cells slots Q (entryFrame m vs.toArray n) := by
  rw [lg_entry_eq]
  exact k _ (hlv ▸ lv_entry vs h)
/-- a maker's counts: slots from ws on; what the end gives -/
def mq (ws w z zr wr : Nat) : Prop := ws ≤ w ∧ z ≤ zr ∧ w ≤ wr
theorem mq.up {ws w z zr wr z1 w1 : Nat} (h : mq ws w z zr wr) (h1 : w ≤ w1) (h2 : z1 ≤ zr) (h3 : w1 ≤ wr) : mq ws w1 z1 zr wr := ⟨Nat.le_trans h.1 h1, h2, h3⟩
theorem mq.rm {ws w z zr wr a : Nat} (h : mq ws w z zr wr) : z - a + 0 ≤ zr - a ∧ w - ws + 0 ≤ wr - ws := ⟨Nat.sub_le_sub_right h.2.1 _, Nat.sub_le_sub_right h.2.2 _⟩
theorem mq.rmN {D : va_G} {cA : Nat → ClassId} {z0 ws w z zr wr z1 w1 : Nat} {s : State} {μ : mM} {H : Heap} {locs : List Loc} (h : mq ws w z zr wr) (I : mI D cA z0 s μ H locs z) (h1 : z ≤ z1) (h2 : w ≤ w1) (h3 : z1 ≤ zr) (h4 : w1 ≤ wr) : z - s.heap.size + (z1 - z) ≤ zr - s.heap.size ∧ w - ws + (w1 - w) ≤ wr - ws := by
  have h5 := I.2.1.1
  have h6 := I.2.2
  have h7 := h.1
  omega
