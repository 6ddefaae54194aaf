/-! RULES: one judgement for all methods ('gM': returns or throws, the words come from the law's start), and a rule a call -/
abbrev gV : Type := Nat × State × va_G × (Nat → ClassId)
/-- the array types -/
def gT (y : Nat → ClassId) : List (ClassId × FieldType) := [(y 0, .int), (y 1, .boolean), (y 2, .int), (y 3, .object "java/lang/Object")]
/-- the law's start -/
def gOK (l : Launch) (E : gV) : Prop := l.stackTraces = false ∧ (∀ w ∈ lw_tbl, w.before #[Value.ref E.1] E.2.1 = true) ∧ (Jvm.Cond.and given_1 narrow_1).before #[Value.ref E.1] E.2.1 = true ∧ va_K E.2.2.1 vwCl (gT E.2.2.2) E.2.1
def gC (l : Launch) (E : gV) (p : Program) (s : State) (m : MethodId) (meth : Method) (c : Code) (own : String) (cc : ByteArray) (nL : Nat) : Prop :=
  gOK l E ∧ E.2.1.WarmedH s.vm ∧ p.tables.exec = Jvm.exec ∧ c.code = cc ∧ c.maxLocals = nL ∧ s.vm.findClass own = some m.cls ∧ meth.locks = false
theorem gw {l : Launch} {E : gV} {s : State} {args : Array Value} {w : Cond} (h : gOK l E) (hW : E.2.1.WarmedH s.vm) (hm : w ∈ lw_tbl) (hg : goodWord w = true) : w.before args s = true := word_at hW (good_of_word hg) (h.2.1 w hm)
theorem gK {l : Launch} {E : gV} {s : State} (h : gOK l E) (hW : E.2.1.WarmedH s.vm) : va_K E.2.2.1 vwCl (gT E.2.2.2) s := va_K.moved hW.alike h.2.2.2
def gN : Nat → Prop := fun _ => False
def gX (px : String → Prop) : String → State → State → Prop := fun E st t => px E ∧ st.heap.size ≤ t.heap.size ∧ ∀ q : Nat, q < st.heap.size → t.heap[q]? = st.heap[q]?
def gQR (post : Option Value → Prop) : Array Value → State → Outcome → State → Prop := fun _ st oc t => ∃ v, oc = .returned v ∧ post v ∧ t.heap = st.heap
def gQW (A : Nat → Prop) (post : Option Value → Heap → Prop) : Array Value → State → Outcome → State → Prop := fun _ st oc t => ∃ v, oc = .returned v ∧ post v t.heap ∧ va_F A st t
def gPi (P : Int32 → Prop) : Option Value → Prop := fun v => ∃ r, v = some (.int r) ∧ P r
def gPr (P : Nat → Prop) : Option Value → Prop := fun v => ∃ r, v = some (.ref r) ∧ P r
def gPl (P : Int64 → Prop) : Option Value → Prop := fun v => ∃ r, v = some (.long r) ∧ P r
def gPf (P : UInt32 → Prop) : Option Value → Prop := fun v => ∃ r, v = some (.float r) ∧ P r
def gPv (P : Prop) : Option Value → Prop := fun v => v = none ∧ P
def gWi (P : Int32 → Heap → Prop) : Option Value → Heap → Prop := fun v H => ∃ r, v = some (.int r) ∧ P r H
def gWr (P : Nat → Heap → Prop) : Option Value → Heap → Prop := fun v H => ∃ r, v = some (.ref r) ∧ P r H
def gWl (P : Int64 → Heap → Prop) : Option Value → Heap → Prop := fun v H => ∃ r, v = some (.long r) ∧ P r H
def gWf (P : UInt32 → Heap → Prop) : Option Value → Heap → Prop := fun v H => ∃ r, v = some (.float r) ∧ P r H
def gWv (P : Heap → Prop) : Option Value → Heap → Prop := fun v H => v = none ∧ P H
/-- a method's contract -/
def gM (l : Launch) (E : gV) (y : MethodName) (cc : ByteArray) (nL : Nat) (ret : Option FieldType) (rm : Room) (av : List Value) (Pre : Heap → Prop) (Qc : Array Value → State → Outcome → State → Prop) (px : String → Prop) (A : Nat → Prop) : Prop :=
  vx_Met l y [Cond.code y cc nL ret] rm (va_Pc av (fun U => E.2.1.WarmedH U.vm ∧ Pre U.heap)) Qc (gX px) rm.cells rm.slots A
/-- its body -/
theorem gM_body {l : Launch} {E : gV} {y : MethodName} {cc : ByteArray} {nL : Nat} {ret : Option FieldType} {rm : Room} {av : List Value} {Pre : Heap → Prop} {Qc : Array Value → State → Outcome → State → Prop} {px : String → Prop} {A : Nat → Prop}
    (hE : gOK l E) (hy : plainName y.cls = true) (hlen : (lg_sl av).length ≤ nL)
    (body : ∀ (p : Program) (e : Env) (s : State) (m : MethodId) (args : Array Value) (below : List Frame) (meth : Method) (c : Code), gC l E p s m meth c y.cls cc nL → (∀ x ∈ c.exceptionTable.toList, False) → meth.sig.returnType = ret → meth.name = y.name → Pre s.heap →
      ∀ ls : Array Slot, lv_has ls nL (lv_args 0 av) → W p l e rm s m args below meth c s.heap [] 0 0 (vx_MQ below Qc (gX px) args s rm.cells rm.slots A) (F0 m 0 ls [])) : gM l E y cc nL ret rm av Pre Qc px A := by
  refine vx_ofW (cc := cc) (maxL := nL) (ret := ret) (ws' := []) hy rfl ?_
  intro p e s m args below meth c s₁ B hml ht hv
  obtain ⟨rfl, hW, hP⟩ := hv
  have hl := lv_entry av (n := nL) hlen
  rw [lg_entry_eq]
  exact body p e s m _ below meth c ⟨hE, hW, B.exec, B.bytes, hml, findClass_of_methodNamed B.named, B.notSynchronized⟩ ht B.returns (name_of_methodNamed B.named B.method).1 hP _ hl
section CALLS
variable {p : Program} {l : Launch} {e : Env} {R : Room} {s : State} {m : MethodId} {args : Array Value} {below : List Frame} {meth : Method} {c : Code} {H : Heap} {locs : List Loc} {cells slots : Nat} {Q : State → Prop}
variable {E : gV} {own : String} {cc cb : ByteArray} {nL nY n index : Nat} {y : MethodName} {ret : Option FieldType} {rm : Room} {Pre : Heap → Prop} {Qc : Array Value → State → Outcome → State → Prop} {px : String → Prop} {A : Nat → Prop} {b : Nat} {As rest : List Value} {pc : Nat} {ls : Array Slot} {st0 : List Value}
/-- what a callee's tables say, once a callee -/
def gY (y : MethodName) (cb : ByteArray) (nY : Nat) (ret : Option FieldType) (n : Nat) : Prop :=
  Cond.initialized y.cls ∈ lw_tbl ∧ Cond.code y cb nY ret ∈ lw_tbl ∧ (y.cls ≠ "java/lang/invoke/MethodHandle" ∧ y.cls ≠ "java/lang/invoke/VarHandle" ∧ (parseMethodDescriptor y.desc).map (fun d => d.parameters.length) = some n)
theorem g_callB (hC : gC l E p s m meth c own cc nL) (hy : gY y cb nY ret n) (hk : Cond.methodLink own index y ∈ lw_tbl) (hR : rm.frames + 1 ≤ R.frames ∧ 8 + (nY + 11) + rm.locals ≤ R.locals) : CallB R s args own index y cb nY ret [Cond.code y cb nY ret] rm rm.cells rm.slots n := by
  obtain ⟨hE, hW, -⟩ := hC
  obtain ⟨h1, h2, h3⟩ := hy
  refine callB_of (ws' := []) (Ts := [Cond.code y cb nY ret]) n (fun w hw => ?_) (goodIn_sub (fun _ h => h) rfl) rfl rfl rfl (gw hE hW h1 rfl) (gw hE hW hk rfl) h3 hR
  rw [List.mem_singleton.mp hw]
  exact gw hE hW h2 rfl
theorem g_pre {av : List Value} (hC : gC l E p s m meth c own cc nL) (hP : Pre H) : ∀ U : State, U.heap = H → s.WarmedH U.vm → va_Pc av (fun U => E.2.1.WarmedH U.vm ∧ Pre U.heap) av.toArray U := fun U hU hW => ⟨rfl, State.WarmedH.trans hC.2.1 hW, by rw [hU]; exact hP⟩
theorem g_blind {av : List Value} : FrameBlind (va_Pc av (fun U => E.2.1.WarmedH U.vm ∧ Pre U.heap)) := fun _ _ _ _ h => h
/-- a static call -/
theorem g_runS (hC : gC l E p s m meth c own cc nL) (hM : gM l E y cb nY ret rm As Pre Qc px A) (hy : gY y cb nY ret n) (hk : Cond.methodLink own index y ∈ lw_tbl) (hs : Cond.static y ∈ lw_tbl) (hP : Pre H) (hn : As.length = n) (hls : ls.size = nL) (hdg : decode cc pc = .ok (.invokestatic index, 3))
    (hR : rm.frames + 1 ≤ R.frames ∧ 8 + (nY + 11) + rm.locals ≤ R.locals) (hf : cells + rm.cells ≤ R.cells ∧ slots + rm.slots ≤ R.slots) (hst : st0 = As.reverse ++ rest) (hW8 : (rest.map fun v => v.category).sum ≤ 8) :
    vx_Run p l e R s m args below meth c H locs cells slots rm.cells rm.slots (F0 m pc ls st0) rest (Qc As.toArray) (gX px) A :=
  vx_runS (Ts := []) ⟨hC.2.2.1, hC.2.2.2.1, hC.2.2.2.2.1, hC.2.2.2.2.2.1, fun w h => nomatch h⟩ hM ⟨g_callB hC hy hk hR, gw hC.1 hC.2.1 hs rfl⟩ ⟨g_blind, g_pre hC hP⟩ rfl hn hls hst (lv_room (pc := pc) (ls := ls) (rest := st0) (m := m) hW8) hdg hf
/-- a virtual call: the receiver's class is the one that declares it -/
theorem g_runV {ci : Nat} {fs : List Value} {T : u_T} {N : Nat} (hC : gC l E p s m meth c own cc nL) (hM : gM l E y cb nY ret rm (.ref b :: As) Pre Qc px A) (hy : gY y cb nY ret n) (hk : Cond.methodLink own index y ∈ lw_tbl) (hi : Cond.instanceMethod y ∈ lw_tbl) (hse : Cond.selects y.cls y y ∈ lw_tbl)
    (hb : va_at E.2.2.1 vwCl (b, .inr (ci, fs)) H) (hc : vwCl[ci]? = some (y.cls, T, N)) (hP : Pre H) (hn : As.length = n) (hls : ls.size = nL) (hdg : decode cc pc = .ok (.invokevirtual index, 3))
    (hR : rm.frames + 1 ≤ R.frames ∧ 8 + (nY + 11) + rm.locals ≤ R.locals) (hf : cells + rm.cells ≤ R.cells ∧ slots + rm.slots ≤ R.slots) (hst : st0 = As.reverse ++ .ref b :: rest) (hW8 : (rest.map fun v => v.category).sum ≤ 8) :
    vx_Run p l e R s m args below meth c H locs cells slots rm.cells rm.slots (F0 m pc ls st0) rest (Qc (Value.ref b :: As).toArray) (gX px) A :=
  vx_runV (Ts := []) (C := y.cls) ⟨hC.2.2.1, hC.2.2.2.1, hC.2.2.2.2.1, hC.2.2.2.2.2.1, fun w h => nomatch h⟩ hM ⟨g_callB hC hy hk hR, gw hC.1 hC.2.1 hi rfl, gw hC.1 hC.2.1 hse rfl⟩
    ⟨g_blind, va_recv (ws := [(b, .inr (ci, fs))]) (q0 := 0) (gK hC.1 hC.2.1) (fun k q h => by
      cases k with
      | zero => cases h; exact hb
      | succ k => cases h) hc rfl, g_pre hC hP⟩ rfl hn hls hst (lv_room (pc := pc) (ls := ls) (rest := st0) (m := m) hW8) hdg hf
/-- a constructor's call -/
theorem g_runI (hC : gC l E p s m meth c own cc nL) (hM : gM l E y cb nY none rm (.ref b :: As) Pre Qc px A) (hy : gY y cb nY none n) (hk : Cond.methodLink own index y ∈ lw_tbl) (hi : Cond.instanceMethod y ∈ lw_tbl) (hnm : y.name = "<init>")
    (hP : Pre H) (hn : As.length = n) (hls : ls.size = nL) (hdg : decode cc pc = .ok (.invokespecial index, 3))
    (hR : rm.frames + 1 ≤ R.frames ∧ 8 + (nY + 11) + rm.locals ≤ R.locals) (hf : cells + rm.cells ≤ R.cells ∧ slots + rm.slots ≤ R.slots) (hst : st0 = As.reverse ++ .ref b :: rest) (hW8 : (rest.map fun v => v.category).sum ≤ 8) :
    vx_Run p l e R s m args below meth c H locs cells slots rm.cells rm.slots (F0 m pc ls st0) rest (Qc (Value.ref b :: As).toArray) (gX px) A :=
  vx_runI (Ts := []) ⟨hC.2.2.1, hC.2.2.2.1, hC.2.2.2.2.1, hC.2.2.2.2.2.1, fun w h => nomatch h⟩ hM ⟨g_callB hC hy hk hR, hnm, gw hC.1 hC.2.1 hi rfl⟩ ⟨g_blind, g_pre hC hP⟩ rfl hn hls hst (lv_room (pc := pc) (ls := ls) (rest := st0) (m := m) hW8) hdg hf
/-- what a callee that has thrown leaves to show -/
def gKx (p : Program) (l : Launch) (e : Env) (R : Room) (s : State) (m : MethodId) (args : Array Value) (below : List Frame) (meth : Method) (c : Code) (H : Heap) (locs : List Loc) (cells slots : Nat) (Q : State → Prop) (g : JFrame) (px : String → Prop) : Prop :=
  ∀ (X : String) (ce : Cell) (q : Addr) (H1 : Heap), px X → H.size ≤ H1.size → (∀ a : Nat, a < H.size → H1[a]? = H[a]?) → H1[q]? = some ce → ce.vm = .none → s.vm.findClass X = some ce.cls → vx_W p l e R s m args below meth c H1 locs cells slots Q g q
theorem g_no {cells slots : Nat} {g : JFrame} : gKx p l e R s m args below meth c H locs cells slots Q g (fun _ => False) := fun _ _ _ _ h => h.elim
/-- no handler here: on to the caller -/
theorem g_up {Qc' : Array Value → State → Outcome → State → Prop} {px' : String → Prop} {A' : Nat → Prop} {mc ms : Nat} (hC : gC l E p s m meth c own cc nL) (ht : ∀ x ∈ c.exceptionTable.toList, False) (h : ∀ X, px X → px' X) (h1 : cells ≤ mc) (h2 : slots ≤ ms) :
    gKx p l e R s m args below meth c s.heap [] cells slots (vx_MQ below Qc' (gX px') args s mc ms A') (F0 m pc ls rest) px := fun X ce q H1 hp hz hk hq hv hc =>
  vx_out (fun x hx => (ht x hx).elim) hC.2.2.2.2.2.2 hq hv hc (fun t e1 _ => ⟨h X hp, by rw [e1]; exact hz, fun a ha => by rw [e1]; exact hk a ha⟩) (fun z hz => nomatch hz) h1 h2
theorem gL_nil {L : List Loc} (h : ∀ q ∈ L, gN q.base) : L = [] := by
  cases L with
  | nil => rfl
  | cons a L => exact (h a List.mem_cons_self).elim
theorem g_cR {post : Option Value → Prop} {a : Array Value} {mc ms : Nat} (hr : vx_Run p l e R s m args below meth c H locs cells slots mc ms (F0 m pc ls st0) rest (gQR post a) (gX px) gN)
    (kx : gKx p l e R s m args below meth c H locs (cells + mc) (slots + ms) Q (F0 m pc ls rest) px)
    (kk : ∀ v : Option Value, post v → W p l e R s m args below meth c H locs (cells + mc) (slots + ms) Q (F0 m (pc + 3) ls (v.toList ++ rest))) : W p l e R s m args below meth c H locs cells slots Q (F0 m pc ls st0) := by
  intro T hT X
  rcases hr T hT X with ⟨v, st₀, t, T', L, h0, X', hL, e1, e2, ⟨v', hv, hp, hh⟩, st⟩ | ⟨q, st₀, t, T', L, E', ce, h0, X', hL, e1, e2, ⟨hp, hz, hk⟩, hce, hcv, hcl, st⟩
  · cases hv
    have hL' := gL_nil hL
    subst hL'
    rw [List.append_nil] at X'
    obtain ⟨t2, a1, b1⟩ := kk _ hp T' (by rw [e1, hh, h0]) X'
    exact ⟨t2, st t2 a1, b1⟩
  · have hL' := gL_nil hL
    subst hL'
    rw [List.append_nil] at X'
    rw [h0] at hz hk
    obtain ⟨t2, a1, b1⟩ := kx E' ce q T'.heap hp (by rw [e1]; exact hz) (fun a ha => by rw [e1]; exact hk a ha) (by rw [e1]; exact hce) hcv hcl T' rfl X'
    exact ⟨t2, st.trans a1, b1⟩
theorem g_cRi {P : Int32 → Prop} {a : Array Value} {mc ms k2 n2 : Nat} (hr : vx_Run p l e R s m args below meth c H locs cells slots mc ms (F0 m pc ls st0) rest (gQR (gPi P) a) (gX px) gN)
    (hc : cells + mc = k2) (hs : slots + ms = n2) (kx : gKx p l e R s m args below meth c H locs k2 n2 Q (F0 m pc ls rest) px)
    (kk : ∀ r : Int32, P r → W p l e R s m args below meth c H locs k2 n2 Q (F0 m (pc + 3) ls (.int r :: rest))) : W p l e R s m args below meth c H locs cells slots Q (F0 m pc ls st0) := by
  subst hc hs
  exact g_cR hr kx (fun v h => by obtain ⟨r, rfl, h⟩ := h; exact kk r h)
theorem g_cRr {P : Nat → Prop} {a : Array Value} {mc ms k2 n2 : Nat} (hr : vx_Run p l e R s m args below meth c H locs cells slots mc ms (F0 m pc ls st0) rest (gQR (gPr P) a) (gX px) gN)
    (hc : cells + mc = k2) (hs : slots + ms = n2) (kx : gKx p l e R s m args below meth c H locs k2 n2 Q (F0 m pc ls rest) px)
    (kk : ∀ r : Nat, P r → W p l e R s m args below meth c H locs k2 n2 Q (F0 m (pc + 3) ls (.ref r :: rest))) : W p l e R s m args below meth c H locs cells slots Q (F0 m pc ls st0) := by
  subst hc hs
  exact g_cR hr kx (fun v h => by obtain ⟨r, rfl, h⟩ := h; exact kk r h)
theorem g_cRv {P : Prop} {a : Array Value} {mc ms k2 n2 : Nat} (hr : vx_Run p l e R s m args below meth c H locs cells slots mc ms (F0 m pc ls st0) rest (gQR (gPv P) a) (gX px) gN)
    (hc : cells + mc = k2) (hs : slots + ms = n2) (kx : gKx p l e R s m args below meth c H locs k2 n2 Q (F0 m pc ls rest) px)
    (kk : P → W p l e R s m args below meth c H locs k2 n2 Q (F0 m (pc + 3) ls rest)) : W p l e R s m args below meth c H locs cells slots Q (F0 m pc ls st0) := by
  subst hc hs
  exact g_cR hr kx (fun v h => by obtain ⟨rfl, h⟩ := h; exact kk h)
end CALLS
