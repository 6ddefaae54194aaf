/-! THE LAW'S WRAPPERS: static methods with an exception table -/
theorem nc_IAE_IOO : Cond.not (.castable "java/lang/IllegalArgumentException" "java/lang/IndexOutOfBoundsException") ∈ flatC (Jvm.Cond.and given_1 narrow_1) := by decide +kernel
theorem nc_ISE_IOO : Cond.not (.castable "java/lang/IllegalStateException" "java/lang/IndexOutOfBoundsException") ∈ flatC (Jvm.Cond.and given_1 narrow_1) := by decide +kernel
theorem nc_ISE_IAE : Cond.not (.castable "java/lang/IllegalStateException" "java/lang/IllegalArgumentException") ∈ flatC (Jvm.Cond.and given_1 narrow_1) := by decide +kernel
theorem nc_ISE_UOE : Cond.not (.castable "java/lang/IllegalStateException" "java/lang/UnsupportedOperationException") ∈ flatC (Jvm.Cond.and given_1 narrow_1) := by decide +kernel
theorem nc_UOE_IOO : Cond.not (.castable "java/lang/UnsupportedOperationException" "java/lang/IndexOutOfBoundsException") ∈ flatC (Jvm.Cond.and given_1 narrow_1) := by decide +kernel
theorem nc_UOE_IAE : Cond.not (.castable "java/lang/UnsupportedOperationException" "java/lang/IllegalArgumentException") ∈ flatC (Jvm.Cond.and given_1 narrow_1) := by decide +kernel
theorem nc_UOE_ISE : Cond.not (.castable "java/lang/UnsupportedOperationException" "java/lang/IllegalStateException") ∈ flatC (Jvm.Cond.and given_1 narrow_1) := by decide +kernel
theorem nc_NSE_IOO : Cond.not (.castable "java/util/NoSuchElementException" "java/lang/IndexOutOfBoundsException") ∈ flatC (Jvm.Cond.and given_1 narrow_1) := by decide +kernel
def gMH (l : Launch) (E : gV) (y : MethodName) (cc : ByteArray) (nL : Nat) (ret : Option FieldType) (hh : List (Nat × Nat × Nat × Nat)) (rm : Room) (av : List Value) (Pre : Heap → Prop) (Qc : Array Value → State → Outcome → State → Prop) (px : String → Prop) (A : Nat → Prop) : Prop :=
  vx_Met l y [Cond.codeWith y cc nL ret hh] rm (va_Pc av (fun U => E.2.1.WarmedH U.vm ∧ Pre U.heap)) Qc (gX px) rm.cells rm.slots A
theorem gMH_body {l : Launch} {E : gV} {y : MethodName} {cc : ByteArray} {nL : Nat} {ret : Option FieldType} {hh : List (Nat × Nat × Nat × Nat)} {rm : Room} {av : List Value} {Pre : Heap → Prop} {Qc : Array Value → State → Outcome → State → Prop} {px : String → Prop} {A : Nat → Prop}
    (hE : gOK l E) (hy : plainName y.cls = true) (hlen : (lg_sl av).length ≤ nL) (hcw : Cond.codeWith y cc nL ret hh ∈ lw_tbl)
    (body : ∀ (p : Program) (e : Env) (s : State) (m : MethodId) (args : Array Value) (below : List Frame) (meth : Method) (c : Code), gC l E p s m meth c y.cls cc nL → c.exceptionTable.toList = tableOf hh → meth.sig.returnType = ret → Pre s.heap →
      ∀ ls : Array Slot, lv_has ls nL (lv_args 0 av) → W p l e rm s m args below meth c s.heap [] 0 0 (vx_MQ below Qc (gX px) args s rm.cells rm.slots A) (F0 m 0 ls [])) : gMH l E y cc nL ret hh rm av Pre Qc px A := by
  refine vx_ofWH (cc := cc) (maxL := nL) (ret := ret) (hh := hh) (ws' := []) hy rfl ?_
  intro p e s m args below meth c s₁ B hml hv
  obtain ⟨rfl, hW, hP⟩ := hv
  have ht := vx_table (x := y) B (gw hE hW hcw rfl)
  have hl := lv_entry av (n := nL) hlen
  rw [lg_entry_eq]
  exact body p e s m _ below meth c ⟨hE, hW, B.exec, B.bytes, hml, findClass_of_methodNamed B.named, B.notSynchronized⟩ ht B.returns hP _ hl
section WRAP
variable {p : Program} {l : Launch} {e : Env} {R : Room} {s : State} {m : MethodId} {args : Array Value} {below : List Frame} {meth : Method} {c : Code} {H H0 : Heap} {locs : List Loc} {cells slots : Nat} {Q : State → Prop}
variable {E : gV} {own : String} {cc cb : ByteArray} {nL nY n index : Nat} {y : MethodName} {ret : Option FieldType} {rm : Room} {Pre : Heap → Prop} {Qc : Array Value → State → Outcome → State → Prop} {px : String → Prop} {A A' : Nat → Prop} {b : Nat} {As rest : List Value} {pc : Nat} {ls : Array Slot} {st0 : List Value}
/-- a call of a method that writes, or throws and then has written nothing old -/
theorem g_cXi {P : Int32 → Heap → Prop} {a : Array Value} {mc ms k2 n2 : Nat} (hr : vx_Run p l e R s m args below meth c H locs cells slots mc ms (F0 m pc ls st0) rest (gQW A' (gWi P) a) (gX px) A') (hS : va_S A H0 H locs) (hAA : ∀ q, A' q → A q) (hc : cells + mc = k2) (hs : slots + ms = n2)
    (kx : ∀ (X : String) (ce : Cell) (q : Addr) (H1 : Heap) (locs1 : List Loc), px X → H.size ≤ H1.size → (∀ z : Nat, z < H.size → H1[z]? = H[z]?) → va_S A H0 H1 locs1 → H1[q]? = some ce → ce.vm = .none → s.vm.findClass X = some ce.cls → vx_W p l e R s m args below meth c H1 locs1 k2 n2 Q (F0 m pc ls rest) q)
    (kk : ∀ (r : Int32) (H1 : Heap) (locs1 : List Loc), P r H1 → H.size ≤ H1.size → (∀ q : Nat, q < H.size → ¬ A' q → H1[q]? = H[q]?) → va_S A H0 H1 locs1 → W p l e R s m args below meth c H1 locs1 k2 n2 Q (F0 m (pc + 3) ls (.int r :: rest))) : W p l e R s m args below meth c H locs cells slots Q (F0 m pc ls st0) := by
  subst hc hs
  intro T hT X
  rcases hr T hT X with ⟨v, st₀, t, T', L, h0, X', hL, e1, e2, ⟨v', hv, ⟨r, rfl, hp⟩, hF⟩, st⟩ | ⟨q, st₀, t, T', L, E', ce, h0, X', hL, e1, e2, ⟨hp, hz, hk⟩, hce, hcv, hcl, st⟩
  · cases hv
    obtain ⟨k1, k2, k3⟩ := vx_keep h0 e1 hS (fun q _ h => hAA q h) hAA hL hF
    obtain ⟨t2, a1, b1⟩ := kk r T'.heap (locs ++ L) (by rw [e1]; exact hp) k1 k2 k3 T' rfl X'
    exact ⟨t2, st t2 a1, b1⟩
  · rw [h0] at hz hk
    have k1 : H.size ≤ T'.heap.size := by rw [e1]; exact hz
    have k2 : ∀ z : Nat, z < H.size → T'.heap[z]? = H[z]? := fun a ha => by rw [e1]; exact hk a ha
    have k3 : va_S A H0 T'.heap (locs ++ L) := ⟨Nat.le_trans hS.1 k1, fun z h1 h2 => (k2 z (Nat.lt_of_lt_of_le h1 hS.1)).trans (hS.2.1 z h1 h2), fun z hz => (List.mem_append.mp hz).elim (hS.2.2 z) (fun h => hAA _ (hL z h))⟩
    obtain ⟨t2, a1, b1⟩ := kx E' ce q T'.heap (locs ++ L) hp k1 k2 k3 (by rw [e1]; exact hce) hcv hcl T' rfl X'
    exact ⟨t2, st.trans a1, b1⟩
theorem g_cRf {P : UInt32 → Prop} {a : Array Value} {mc ms k2 n2 : Nat} (hr : vx_Run p l e R s m args below meth c H locs cells slots mc ms (F0 m pc ls st0) rest (gQR (gPf P) a) (gX px) gN)
    (hc : cells + mc = k2) (hs : slots + ms = n2) (kx : gKx p l e R s m args below meth c H locs k2 n2 Q (F0 m pc ls rest) px)
    (kk : ∀ r : UInt32, P r → W p l e R s m args below meth c H locs k2 n2 Q (F0 m (pc + 3) ls (.float r :: rest))) : W p l e R s m args below meth c H locs cells slots Q (F0 m pc ls st0) := by
  subst hc hs
  exact g_cR hr kx (fun v h => by obtain ⟨r, rfl, h⟩ := h; exact kk r h)
theorem g_cRl {P : Int64 → Prop} {a : Array Value} {mc ms k2 n2 : Nat} (hr : vx_Run p l e R s m args below meth c H locs cells slots mc ms (F0 m pc ls st0) rest (gQR (gPl P) a) (gX px) gN)
    (hc : cells + mc = k2) (hs : slots + ms = n2) (kx : gKx p l e R s m args below meth c H locs k2 n2 Q (F0 m pc ls rest) px)
    (kk : ∀ r : Int64, P r → W p l e R s m args below meth c H locs k2 n2 Q (F0 m (pc + 3) ls (.long r :: rest))) : W p l e R s m args below meth c H locs cells slots Q (F0 m pc ls st0) := by
  subst hc hs
  exact g_cR hr kx (fun v h => by obtain ⟨r, rfl, h⟩ := h; exact kk r h)
theorem g_cWl {P : Int64 → Heap → Prop} {a : Array Value} {mc ms k2 n2 : Nat} (hr : vx_Run p l e R s m args below meth c H locs cells slots mc ms (F0 m pc ls st0) rest (gQW A' (gWl P) a) (gX (fun _ => False)) A') (hS : va_S A H0 H locs) (hAA : ∀ q, A' q → A q) (hc : cells + mc = k2) (hs : slots + ms = n2)
    (kk : ∀ (r : Int64) (H1 : Heap) (locs1 : List Loc), P r H1 → H.size ≤ H1.size → (∀ q : Nat, q < H.size → ¬ A' q → H1[q]? = H[q]?) → va_S A H0 H1 locs1 → W p l e R s m args below meth c H1 locs1 k2 n2 Q (F0 m (pc + 3) ls (.long r :: rest))) : W p l e R s m args below meth c H locs cells slots Q (F0 m pc ls st0) := by
  subst hc hs
  exact g_cW hr hS hAA (fun v H1 locs1 h h1 h2 h3 => by obtain ⟨r, rfl, h⟩ := h; exact kk r H1 locs1 h h1 h2 h3)
theorem g_cWf {P : UInt32 → Heap → Prop} {a : Array Value} {mc ms k2 n2 : Nat} (hr : vx_Run p l e R s m args below meth c H locs cells slots mc ms (F0 m pc ls st0) rest (gQW A' (gWf P) a) (gX (fun _ => False)) A') (hS : va_S A H0 H locs) (hAA : ∀ q, A' q → A q) (hc : cells + mc = k2) (hs : slots + ms = n2)
    (kk : ∀ (r : UInt32) (H1 : Heap) (locs1 : List Loc), P r H1 → H.size ≤ H1.size → (∀ q : Nat, q < H.size → ¬ A' q → H1[q]? = H[q]?) → va_S A H0 H1 locs1 → W p l e R s m args below meth c H1 locs1 k2 n2 Q (F0 m (pc + 3) ls (.float r :: rest))) : W p l e R s m args below meth c H locs cells slots Q (F0 m pc ls st0) := by
  subst hc hs
  exact g_cW hr hS hAA (fun v H1 locs1 h h1 h2 h3 => by obtain ⟨r, rfl, h⟩ := h; exact kk r H1 locs1 h h1 h2 h3)
/-- a static call of a wrapper -/
theorem g_runSH {hh : List (Nat × Nat × Nat × Nat)} (hC : gC l E p s m meth c own cc nL) (hM : gMH l E y cb nY ret hh rm As Pre Qc px A) (hi : Cond.initialized y.cls ∈ lw_tbl) (hcw : Cond.codeWith y cb nY ret hh ∈ lw_tbl) (hd : y.cls ≠ "java/lang/invoke/MethodHandle" ∧ y.cls ≠ "java/lang/invoke/VarHandle" ∧ (parseMethodDescriptor y.desc).map (fun d => d.parameters.length) = some n) (hk : Cond.methodLink own index y ∈ lw_tbl) (hs : Cond.static y ∈ lw_tbl) (hP : Pre H) (hn : As.length = n) (hls : ls.size = nL) (hdg : decode cc pc = .ok (.invokestatic index, 3))
    (hR : rm.frames + 1 ≤ R.frames ∧ 8 + (nY + 11) + rm.locals ≤ R.locals) (hf : cells + rm.cells ≤ R.cells ∧ slots + rm.slots ≤ R.slots) (hst : st0 = As.reverse ++ rest) (hW8 : (rest.map fun v => v.category).sum ≤ 8) :
    vx_Run p l e R s m args below meth c H locs cells slots rm.cells rm.slots (F0 m pc ls st0) rest (Qc As.toArray) (gX px) A := by
  have hg : ∀ w ∈ va_wsS own index y [Cond.codeWith y cb nY ret hh], w ∈ lw_tbl ∧ goodWord w = true := fun w hw => by
    simp only [va_wsS, List.mem_append, List.mem_cons, List.mem_nil_iff, or_false] at hw
    rcases hw with (rfl | rfl | rfl) | rfl
    · exact ⟨hk, rfl⟩
    · exact ⟨hs, rfl⟩
    · exact ⟨hi, rfl⟩
    · exact ⟨hcw, rfl⟩
  exact vx_runSX (Ts := []) (hh := hh) ⟨hC.2.2.1, hC.2.2.2.1, hC.2.2.2.2.1, hC.2.2.2.2.2.1, fun w h => nomatch h⟩ hM
    (vx_cwSW (ws' := []) (Ts := va_wsS own index y [Cond.codeWith y cb nY ret hh]) n (fun w hw => gw hC.1 hC.2.1 (hg w hw).1 (hg w hw).2) (goodIn_sub (fun _ h => h) rfl) rfl rfl rfl hd hR)
    ⟨g_blind, g_pre hC hP⟩ rfl hn hls hst (lv_room (pc := pc) (ls := ls) (rest := st0) (m := m) hW8) hdg hf
end WRAP
section KEEPB
variable {E : gV} {α : Nat → Nat → Nat} {ξ : F2} {M : Nat → F2} {N : Nat → Nat} {H H1 : Heap}
theorem RB.keepB {B : Nat → Prop} (h : RB E B α ξ M N H) (hB : ∀ q, B q → E.2.1.heap.size ≤ q) (hz : H.size ≤ H1.size) (hq : ∀ q : Nat, q < H.size → ¬ B q → H1[q]? = H[q]?) : RB E B α ξ M N H1 := by
  have hs : ∀ {k i : Nat}, xV N k i → H1[α k i]? = H[α k i]? := fun {k i} hv => hq _ (h.1.lt hv) (h.2.1 k i hv)
  obtain ⟨h, hb1, hb2⟩ := h
  exact ⟨⟨h.sig.kept (hs (xV_3 (by omega))), fun w hw => (h.mom w hw).kept (hs (xV_3 (by omega))), fun w hw k hk => (h.row w hw k hk rfl rfl).kept (hs (xV_3 (by omega))), fun k hk => (h.list k hk).keptL (hs (xV_3 (by omega))) (fun h0 => hs (Or.inr ⟨rfl, Or.inr ⟨k, hk, rfl, h0⟩⟩)), fun i hi => (h.pow hi).kept (hs (Or.inl ⟨by omega, hi⟩)), fun i hi => (h.deed hi).kept (hs (Or.inl ⟨by omega, hi⟩)), fun i hi => (h.pap hi).kept (hs (Or.inl ⟨by omega, hi⟩)), h.tag, h.ge, fun q hz => (hq q (Nat.lt_of_lt_of_le hz (gFz.le h.frz)) (fun z => by have := hB q z; omega)).trans (h.frz q hz), h.inv⟩, hb1, fun q hb => Nat.lt_of_lt_of_le (hb2 q hb) hz⟩
end KEEPB
theorem bz_eq {P P' : Prop} {r b : Int32} (h : bz P r) (h' : bz P' b) (e : P ↔ P') : r = b := by
  rcases h with ⟨h, a⟩ | ⟨h, a⟩ <;> rcases h' with ⟨h', a'⟩ | ⟨h', a'⟩
  · rw [h, h']
  · exact absurd (e.mp a) a'
  · exact absurd (e.mpr a') a
  · rw [h, h']
theorem cif_le {P : Prop} {a b n : Nat} (h1 : a ≤ n) (h2 : b ≤ n) : cif P a b ≤ n := by
  unfold cif
  split
  · exact h1
  · exact h2
