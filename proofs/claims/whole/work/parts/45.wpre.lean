/-! THE LAW'S WRAPPERS: static methods with an exception table -/
theorem fp_all2 : ∀ a : Fin 25, ∀ b : Fin 25, b.val ≠ 0 → (FP.f2d (FP.fdiv (FP.i2f (nI a.val)) (FP.i2f (nI b.val))) &&& 0x7fffffffffffffff ≤ 0x7ff0000000000000) := by decide +kernel
theorem fp_ok2 {a b : Nat} (ha : a ≤ 24) (hb : b ≤ 24) (h0 : b ≠ 0) : vf_n64 (FP.f2d (FP.fdiv (FP.i2f (nI a)) (FP.i2f (nI b)))) := fp_all2 ⟨a, by omega⟩ ⟨b, by omega⟩ h0
theorem nc_IOO_IAE : Cond.not (.castable "java/lang/IndexOutOfBoundsException" "java/lang/IllegalArgumentException") ∈ flatC (Jvm.Cond.and given_1 narrow_1) := by decide +kernel
theorem nc_IOO_ISE : Cond.not (.castable "java/lang/IndexOutOfBoundsException" "java/lang/IllegalStateException") ∈ flatC (Jvm.Cond.and given_1 narrow_1) := by decide +kernel
theorem nc_IOO_UOE : Cond.not (.castable "java/lang/IndexOutOfBoundsException" "java/lang/UnsupportedOperationException") ∈ flatC (Jvm.Cond.and given_1 narrow_1) := by decide +kernel
theorem nc_IOO_NSE : Cond.not (.castable "java/lang/IndexOutOfBoundsException" "java/util/NoSuchElementException") ∈ flatC (Jvm.Cond.and given_1 narrow_1) := by decide +kernel
theorem nc_IAE_IOO : Cond.not (.castable "java/lang/IllegalArgumentException" "java/lang/IndexOutOfBoundsException") ∈ flatC (Jvm.Cond.and given_1 narrow_1) := by decide +kernel
theorem nc_IAE_ISE : Cond.not (.castable "java/lang/IllegalArgumentException" "java/lang/IllegalStateException") ∈ flatC (Jvm.Cond.and given_1 narrow_1) := by decide +kernel
theorem nc_IAE_UOE : Cond.not (.castable "java/lang/IllegalArgumentException" "java/lang/UnsupportedOperationException") ∈ flatC (Jvm.Cond.and given_1 narrow_1) := by decide +kernel
theorem nc_IAE_NSE : Cond.not (.castable "java/lang/IllegalArgumentException" "java/util/NoSuchElementException") ∈ flatC (Jvm.Cond.and given_1 narrow_1) := by decide +kernel
theorem nc_ISE_IOO : Cond.not (.castable "java/lang/IllegalStateException" "java/lang/IndexOutOfBoundsException") ∈ flatC (Jvm.Cond.and given_1 narrow_1) := by decide +kernel
theorem nc_ISE_IAE : Cond.not (.castable "java/lang/IllegalStateException" "java/lang/IllegalArgumentException") ∈ flatC (Jvm.Cond.and given_1 narrow_1) := by decide +kernel
theorem nc_ISE_UOE : Cond.not (.castable "java/lang/IllegalStateException" "java/lang/UnsupportedOperationException") ∈ flatC (Jvm.Cond.and given_1 narrow_1) := by decide +kernel
theorem nc_ISE_NSE : Cond.not (.castable "java/lang/IllegalStateException" "java/util/NoSuchElementException") ∈ flatC (Jvm.Cond.and given_1 narrow_1) := by decide +kernel
theorem nc_UOE_IOO : Cond.not (.castable "java/lang/UnsupportedOperationException" "java/lang/IndexOutOfBoundsException") ∈ flatC (Jvm.Cond.and given_1 narrow_1) := by decide +kernel
theorem nc_UOE_IAE : Cond.not (.castable "java/lang/UnsupportedOperationException" "java/lang/IllegalArgumentException") ∈ flatC (Jvm.Cond.and given_1 narrow_1) := by decide +kernel
theorem nc_UOE_ISE : Cond.not (.castable "java/lang/UnsupportedOperationException" "java/lang/IllegalStateException") ∈ flatC (Jvm.Cond.and given_1 narrow_1) := by decide +kernel
theorem nc_UOE_NSE : Cond.not (.castable "java/lang/UnsupportedOperationException" "java/util/NoSuchElementException") ∈ flatC (Jvm.Cond.and given_1 narrow_1) := by decide +kernel
theorem nc_NSE_IOO : Cond.not (.castable "java/util/NoSuchElementException" "java/lang/IndexOutOfBoundsException") ∈ flatC (Jvm.Cond.and given_1 narrow_1) := by decide +kernel
theorem nc_NSE_IAE : Cond.not (.castable "java/util/NoSuchElementException" "java/lang/IllegalArgumentException") ∈ flatC (Jvm.Cond.and given_1 narrow_1) := by decide +kernel
theorem nc_NSE_ISE : Cond.not (.castable "java/util/NoSuchElementException" "java/lang/IllegalStateException") ∈ flatC (Jvm.Cond.and given_1 narrow_1) := by decide +kernel
theorem nc_NSE_UOE : Cond.not (.castable "java/util/NoSuchElementException" "java/lang/UnsupportedOperationException") ∈ flatC (Jvm.Cond.and given_1 narrow_1) := by decide +kernel
def gMH (l : Launch) (E : gV) (y : MethodName) (cc : ByteArray) (nL : Nat) (ret : Option FieldType) (hh : List (Nat × Nat × Nat × Nat)) (rm : Room) (av : List Value) (Pre : Heap → Prop) (Qc : Array Value → State → Outcome → State → Prop) (px : String → Prop) (A : Nat → Prop) : Prop :=
  vx_Met l y [Cond.codeWith y cc nL ret hh] rm (va_Pc av (fun U => E.2.1.WarmedH U.vm ∧ Pre U.heap)) Qc (gX px) rm.cells rm.slots A
theorem gMH_body {l : Launch} {E : gV} {y : MethodName} {cc : ByteArray} {nL : Nat} {ret : Option FieldType} {hh : List (Nat × Nat × Nat × Nat)} {rm : Room} {av : List Value} {Pre : Heap → Prop} {Qc : Array Value → State → Outcome → State → Prop} {px : String → Prop} {A : Nat → Prop}
    (hE : gOK l E) (hy : plainName y.cls = true) (hlen : (lg_sl av).length ≤ nL) (hcw : Cond.codeWith y cc nL ret hh ∈ lw_tbl)
    (body : ∀ (p : Program) (e : Env) (s : State) (m : MethodId) (args : Array Value) (below : List Frame) (meth : Method) (c : Code), gC l E p s m meth c y.cls cc nL → c.exceptionTable.toList = tableOf hh → meth.sig.returnType = ret → Pre s.heap →
      ∀ ls : Array Slot, lv_has ls nL (lv_args 0 av) → W p l e rm s m args below meth c s.heap [] 0 0 (vx_MQ below Qc (gX px) args s rm.cells rm.slots A) (F0 m 0 ls [])) : gMH l E y cc nL ret hh rm av Pre Qc px A := by
  refine vx_ofWH (cc := cc) (maxL := nL) (ret := ret) (hh := hh) (ws' := []) hy rfl ?_
  intro p e s m args below meth c s₁ B hml hv
  obtain ⟨rfl, hW, hP⟩ := hv
  have ht := vx_table (x := y) B (gw hE hW hcw rfl)
  have hl := lv_entry av (n := nL) hlen
  rw [lg_entry_eq]
  exact body p e s m _ below meth c ⟨hE, hW, B.exec, B.bytes, hml, findClass_of_methodNamed B.named, B.notSynchronized⟩ ht B.returns hP _ hl
section WRAP
variable {p : Program} {l : Launch} {e : Env} {R : Room} {s : State} {m : MethodId} {args : Array Value} {below : List Frame} {meth : Method} {c : Code} {H H0 : Heap} {locs : List Loc} {cells slots : Nat} {Q : State → Prop}
variable {E : gV} {own : String} {cc cb : ByteArray} {nL nY n index : Nat} {y : MethodName} {ret : Option FieldType} {rm : Room} {Pre : Heap → Prop} {Qc : Array Value → State → Outcome → State → Prop} {px : String → Prop} {A A' : Nat → Prop} {b : Nat} {As rest : List Value} {pc : Nat} {ls : Array Slot} {st0 : List Value}
/-- a call of a method that writes, or throws and then has written nothing old -/
theorem g_cXi {P : Int32 → Heap → Prop} {a : Array Value} {mc ms k2 n2 : Nat} (hr : vx_Run p l e R s m args below meth c H locs cells slots mc ms (F0 m pc ls st0) rest (gQW A' (gWi P) a) (gX px) A') (hS : va_S A H0 H locs) (hAA : ∀ q, A' q → A q) (hc : cells + mc = k2) (hs : slots + ms = n2)
    (kx : ∀ (X : String) (ce : Cell) (q : Addr) (H1 : Heap) (locs1 : List Loc), px X → H.size ≤ H1.size → (∀ z : Nat, z < H.size → H1[z]? = H[z]?) → va_S A H0 H1 locs1 → H1[q]? = some ce → ce.vm = .none → s.vm.findClass X = some ce.cls → vx_W p l e R s m args below meth c H1 locs1 k2 n2 Q (F0 m pc ls rest) q)
    (kk : ∀ (r : Int32) (H1 : Heap) (locs1 : List Loc), P r H1 → H.size ≤ H1.size → (∀ q : Nat, q < H.size → ¬ A' q → H1[q]? = H[q]?) → va_S A H0 H1 locs1 → W p l e R s m args below meth c H1 locs1 k2 n2 Q (F0 m (pc + 3) ls (.int r :: rest))) : W p l e R s m args below meth c H locs cells slots Q (F0 m pc ls st0) := by
  subst hc hs
  intro T hT X
  rcases hr T hT X with ⟨v, st₀, t, T', L, h0, X', hL, e1, e2, ⟨v', hv, ⟨r, rfl, hp⟩, hF⟩, st⟩ | ⟨q, st₀, t, T', L, E', ce, h0, X', hL, e1, e2, ⟨hp, hz, hk⟩, hce, hcv, hcl, st⟩
  · cases hv
    obtain ⟨k1, k2, k3⟩ := vx_keep h0 e1 hS (fun q _ h => hAA q h) hAA hL hF
    obtain ⟨t2, a1, b1⟩ := kk r T'.heap (locs ++ L) (by rw [e1]; exact hp) k1 k2 k3 T' rfl X'
    exact ⟨t2, st t2 a1, b1⟩
  · rw [h0] at hz hk
    have k1 : H.size ≤ T'.heap.size := by rw [e1]; exact hz
    have k2 : ∀ z : Nat, z < H.size → T'.heap[z]? = H[z]? := fun a ha => by rw [e1]; exact hk a ha
    have k3 : va_S A H0 T'.heap (locs ++ L) := ⟨Nat.le_trans hS.1 k1, fun z h1 h2 => (k2 z (Nat.lt_of_lt_of_le h1 hS.1)).trans (hS.2.1 z h1 h2), fun z hz => (List.mem_append.mp hz).elim (hS.2.2 z) (fun h => hAA _ (hL z h))⟩
    obtain ⟨t2, a1, b1⟩ := kx E' ce q T'.heap (locs ++ L) hp k1 k2 k3 (by rw [e1]; exact hce) hcv hcl T' rfl X'
    exact ⟨t2, st.trans a1, b1⟩
theorem g_cRf {P : UInt32 → Prop} {a : Array Value} {mc ms k2 n2 : Nat} (hr : vx_Run p l e R s m args below meth c H locs cells slots mc ms (F0 m pc ls st0) rest (gQR (gPf P) a) (gX px) gN)
    (hc : cells + mc = k2) (hs : slots + ms = n2) (kx : gKx p l e R s m args below meth c H locs k2 n2 Q (F0 m pc ls rest) px)
    (kk : ∀ r : UInt32, P r → W p l e R s m args below meth c H locs k2 n2 Q (F0 m (pc + 3) ls (.float r :: rest))) : W p l e R s m args below meth c H locs cells slots Q (F0 m pc ls st0) := by
  subst hc hs
  exact g_cR hr kx (fun v h => by obtain ⟨r, rfl, h⟩ := h; exact kk r h)
theorem g_cRl {P : Int64 → Prop} {a : Array Value} {mc ms k2 n2 : Nat} (hr : vx_Run p l e R s m args below meth c H locs cells slots mc ms (F0 m pc ls st0) rest (gQR (gPl P) a) (gX px) gN)
    (hc : cells + mc = k2) (hs : slots + ms = n2) (kx : gKx p l e R s m args below meth c H locs k2 n2 Q (F0 m pc ls rest) px)
    (kk : ∀ r : Int64, P r → W p l e R s m args below meth c H locs k2 n2 Q (F0 m (pc + 3) ls (.long r :: rest))) : W p l e R s m args below meth c H locs cells slots Q (F0 m pc ls st0) := by
  subst hc hs
  exact g_cR hr kx (fun v h => by obtain ⟨r, rfl, h⟩ := h; exact kk r h)
theorem g_cWl {P : Int64 → Heap → Prop} {a : Array Value} {mc ms k2 n2 : Nat} (hr : vx_Run p l e R s m args below meth c H locs cells slots mc ms (F0 m pc ls st0) rest (gQW A' (gWl P) a) (gX (fun _ => False)) A') (hS : va_S A H0 H locs) (hAA : ∀ q, A' q → A q) (hc : cells + mc = k2) (hs : slots + ms = n2)
    (kk : ∀ (r : Int64) (H1 : Heap) (locs1 : List Loc), P r H1 → H.size ≤ H1.size → (∀ q : Nat, q < H.size → ¬ A' q → H1[q]? = H[q]?) → va_S A H0 H1 locs1 → W p l e R s m args below meth c H1 locs1 k2 n2 Q (F0 m (pc + 3) ls (.long r :: rest))) : W p l e R s m args below meth c H locs cells slots Q (F0 m pc ls st0) := by
  subst hc hs
  exact g_cW hr hS hAA (fun v H1 locs1 h h1 h2 h3 => by obtain ⟨r, rfl, h⟩ := h; exact kk r H1 locs1 h h1 h2 h3)
theorem g_cWf {P : UInt32 → Heap → Prop} {a : Array Value} {mc ms k2 n2 : Nat} (hr : vx_Run p l e R s m args below meth c H locs cells slots mc ms (F0 m pc ls st0) rest (gQW A' (gWf P) a) (gX (fun _ => False)) A') (hS : va_S A H0 H locs) (hAA : ∀ q, A' q → A q) (hc : cells + mc = k2) (hs : slots + ms = n2)
    (kk : ∀ (r : UInt32) (H1 : Heap) (locs1 : List Loc), P r H1 → H.size ≤ H1.size → (∀ q : Nat, q < H.size → ¬ A' q → H1[q]? = H[q]?) → va_S A H0 H1 locs1 → W p l e R s m args below meth c H1 locs1 k2 n2 Q (F0 m (pc + 3) ls (.float r :: rest))) : W p l e R s m args below meth c H locs cells slots Q (F0 m pc ls st0) := by
  subst hc hs
  exact g_cW hr hS hAA (fun v H1 locs1 h h1 h2 h3 => by obtain ⟨r, rfl, h⟩ := h; exact kk r H1 locs1 h h1 h2 h3)
theorem g_lald {a n j : Nat} {f : Nat → Int64} (hC : gC l E p s m meth c own cc nL) (hE : gA E a (.inl (E.2.2.2 4, n, .inr (.inl f))) H) (hj : j < n) (hn : n < 2 ^ 31) (hdg : decode cc pc = .ok (.laload, 1))
    (kk : W p l e R s m args below meth c H locs cells slots Q (F0 m (pc + 1) ls (.long (f j) :: rest))) : W p l e R s m args below meth c H locs cells slots Q (F0 m pc ls (.int (nI j) :: .ref a :: rest)) :=
  va_lald hC.2.2.1 hC.2.2.2.1 (gK hC.1 hC.2.1) hE.one 0 4 rfl rfl (vp_in_nI hj hn) hdg (by rw [nI_clamp (by omega)]; exact kk)
theorem g_dald {a n j : Nat} {f : Nat → UInt64} (hC : gC l E p s m meth c own cc nL) (hE : gA E a (.inl (E.2.2.2 5, n, .inr (.inr (.inr (.inl f))))) H) (hj : j < n) (hn : n < 2 ^ 31) (hdg : decode cc pc = .ok (.daload, 1))
    (kk : W p l e R s m args below meth c H locs cells slots Q (F0 m (pc + 1) ls (.double (f j) :: rest))) : W p l e R s m args below meth c H locs cells slots Q (F0 m pc ls (.int (nI j) :: .ref a :: rest)) :=
  va_dald hC.2.2.1 hC.2.2.2.1 (gK hC.1 hC.2.1) hE.one 0 5 rfl rfl (vp_in_nI hj hn) hdg (by rw [nI_clamp (by omega)]; exact kk)
theorem g_last {a n j : Nat} {x : Int64} {f : Nat → Int64} (hC : gC l E p s m meth c own cc nL) (hE : gA E a (.inl (E.2.2.2 4, n, .inr (.inl f))) H) (hS : va_S A H0 H locs) (hA : A a) (hj : j < n) (hn : n < 2 ^ 31) (hdg : decode cc pc = .ok (.lastore, 1))
    (kk : ∀ (H1 : Heap) (locs1 : List Loc), gA E a (.inl (E.2.2.2 4, n, .inr (.inl (vp_updL f j x)))) H1 → H1.size = H.size → (∀ q : Nat, q ≠ a → H1[q]? = H[q]?) → va_S A H0 H1 locs1 → W p l e R s m args below meth c H1 locs1 cells slots Q (F0 m (pc + 1) ls rest)) : W p l e R s m args below meth c H locs cells slots Q (F0 m pc ls (.long x :: .int (nI j) :: .ref a :: rest)) := by
  have hin : vp_in (nI j) n := vp_in_nI hj hn
  refine W.last hC.2.2.1 hC.2.2.2.1 hE (((gK hC.1 hC.2.1).2 4 _ rfl).1 n (fun j => .long (f j))) (fun q => by cases q) (by show ¬ (nI j < 0 ∨ (arrV _ _ _).slots.size ≤ _); rw [arrV_size]; exact hin) rfl rfl hdg fun H1 e z oq => ?_
  refine kk H1 _ ?_ z oq (hS.put z oq hA)
  show H1[a]? = some (vp_cell _ _)
  rw [e]
  rw [vp_cell_l, vp_cell_l, arrV_store, nI_clamp (by omega)]
  congr 2
  funext q
  by_cases hq : q = j
  · subst hq
    simp [updV, vp_updL]
  · simp [updV, vp_updL, hq]
theorem g_dast {a n j : Nat} {x : UInt64} {f : Nat → UInt64} (hC : gC l E p s m meth c own cc nL) (hE : gA E a (.inl (E.2.2.2 5, n, .inr (.inr (.inr (.inl f))))) H) (hS : va_S A H0 H locs) (hA : A a) (hj : j < n) (hn : n < 2 ^ 31) (hdg : decode cc pc = .ok (.dastore, 1))
    (kk : ∀ (H1 : Heap) (locs1 : List Loc), gA E a (.inl (E.2.2.2 5, n, .inr (.inr (.inr (.inl (vf_upd f j x)))))) H1 → H1.size = H.size → (∀ q : Nat, q ≠ a → H1[q]? = H[q]?) → va_S A H0 H1 locs1 → W p l e R s m args below meth c H1 locs1 cells slots Q (F0 m (pc + 1) ls rest)) : W p l e R s m args below meth c H locs cells slots Q (F0 m pc ls (.double x :: .int (nI j) :: .ref a :: rest)) := by
  have hin : vp_in (nI j) n := vp_in_nI hj hn
  refine W.dast hC.2.2.1 hC.2.2.2.1 hE (((gK hC.1 hC.2.1).2 5 _ rfl).1 n (fun j => .double (f j))) (fun q => by cases q) (by show ¬ (nI j < 0 ∨ (arrV _ _ _).slots.size ≤ _); rw [arrV_size]; exact hin) rfl rfl hdg fun H1 e z oq => ?_
  refine kk H1 _ ?_ z oq (hS.put z oq hA)
  show H1[a]? = some (vp_cell _ _)
  rw [e]
  rw [vp_cell_d, vp_cell_d, arrV_store, nI_clamp (by omega)]
  congr 2
  funext q
  by_cases hq : q = j
  · subst hq
    simp [updV, vf_upd]
  · simp [updV, vf_upd, hq]
/-- a static call of a wrapper -/
theorem g_runSH {hh : List (Nat × Nat × Nat × Nat)} (hC : gC l E p s m meth c own cc nL) (hM : gMH l E y cb nY ret hh rm As Pre Qc px A) (hi : Cond.initialized y.cls ∈ lw_tbl) (hcw : Cond.codeWith y cb nY ret hh ∈ lw_tbl) (hd : y.cls ≠ "java/lang/invoke/MethodHandle" ∧ y.cls ≠ "java/lang/invoke/VarHandle" ∧ (parseMethodDescriptor y.desc).map (fun d => d.parameters.length) = some n) (hk : Cond.methodLink own index y ∈ lw_tbl) (hs : Cond.static y ∈ lw_tbl) (hP : Pre H) (hn : As.length = n) (hls : ls.size = nL) (hdg : decode cc pc = .ok (.invokestatic index, 3))
    (hR : rm.frames + 1 ≤ R.frames ∧ 8 + (nY + 11) + rm.locals ≤ R.locals) (hf : cells + rm.cells ≤ R.cells ∧ slots + rm.slots ≤ R.slots) (hst : st0 = As.reverse ++ rest) (hW8 : (rest.map fun v => v.category).sum ≤ 8) :
    vx_Run p l e R s m args below meth c H locs cells slots rm.cells rm.slots (F0 m pc ls st0) rest (Qc As.toArray) (gX px) A := by
  have hg : ∀ w ∈ va_wsS own index y [Cond.codeWith y cb nY ret hh], w ∈ lw_tbl ∧ goodWord w = true := fun w hw => by
    simp only [va_wsS, List.mem_append, List.mem_cons, List.mem_nil_iff, or_false] at hw
    rcases hw with (rfl | rfl | rfl) | rfl
    · exact ⟨hk, rfl⟩
    · exact ⟨hs, rfl⟩
    · exact ⟨hi, rfl⟩
    · exact ⟨hcw, rfl⟩
  exact vx_runSX (Ts := []) (hh := hh) ⟨hC.2.2.1, hC.2.2.2.1, hC.2.2.2.2.1, hC.2.2.2.2.2.1, fun w h => nomatch h⟩ hM
    (vx_cwSW (ws' := []) (Ts := va_wsS own index y [Cond.codeWith y cb nY ret hh]) n (fun w hw => gw hC.1 hC.2.1 (hg w hw).1 (hg w hw).2) (goodIn_sub (fun _ h => h) rfl) rfl rfl rfl hd hR)
    ⟨g_blind, g_pre hC hP⟩ rfl hn hls hst (lv_room (pc := pc) (ls := ls) (rest := st0) (m := m) hW8) hdg hf
end WRAP
section WPOST
variable {E : gV} {B : Nat → Prop} {α : Nat → Nat → Nat} {ξ : F2} {M : Nat → F2} {N : Nat → Nat} {H H1 : Heap}
theorem RB.keepO (h : RB E B α ξ M N H) {o : Nat} (ho : B o) (hoE : E.2.1.heap.size ≤ o) (hz : H.size ≤ H1.size) (hq : ∀ q : Nat, q ≠ o → H1[q]? = H[q]?) : RB E B α ξ M N H1 := by
  have hs : ∀ {k i : Nat}, xV N k i → H1[α k i]? = H[α k i]? := fun {k i} hv => hq _ (fun e => h.2.1 k i hv (e ▸ ho))
  obtain ⟨h, hb1, hb2⟩ := h
  exact ⟨⟨h.sig.kept (hs (xV_3 (by omega))), fun w hw => (h.mom w hw).kept (hs (xV_3 (by omega))), fun w hw k hk => (h.row w hw k hk rfl rfl).kept (hs (xV_3 (by omega))), fun k hk => (h.list k hk).keptL (hs (xV_3 (by omega))) (fun h0 => hs (Or.inr ⟨rfl, Or.inr ⟨k, hk, rfl, h0⟩⟩)), fun i hi => (h.pow hi).kept (hs (Or.inl ⟨by omega, hi⟩)), fun i hi => (h.deed hi).kept (hs (Or.inl ⟨by omega, hi⟩)), fun i hi => (h.pap hi).kept (hs (Or.inl ⟨by omega, hi⟩)), h.tag, h.ge, fun q hz => (hq q (by omega)).trans (h.frz q hz), h.inv⟩, hb1, fun q hb => Nat.lt_of_lt_of_le (hb2 q hb) hz⟩
/-- what a wrapper leaves -/
def wPost (E : gV) (B : Nat → Prop) (a0 o : Nat) (ξ : F2) (M : Nat → F2) (N : Nat → Nat) (code : Nat) (ξ' m' : F2) (N' : Nat → Nat) (Pv : Int64 → Prop) (H : Heap) : Prop := ∃ (α' : Nat → Nat → Nat) (M' : Nat → F2) (f : Nat → Int64), RB E B α' (if code = 0 then ξ' else ξ) M' (if code = 0 then N' else N) H ∧ M' 0 = (if code = 0 then m' else M 0) ∧ α' 3 0 = a0 ∧ gA E o (.inl (E.2.2.2 4, 1, .inr (.inl f))) H ∧ (code = 0 → Pv (f 0))
theorem wPost_0 {a0 o code : Nat} {ξ' m' : F2} {N' : Nat → Nat} {Pv : Int64 → Prop} {α' : Nat → Nat → Nat} {M' : Nat → F2} {f : Nat → Int64} (hk : code = 0) (h : RB E B α' ξ' M' N' H) (hm : M' 0 = m') (ha : α' 3 0 = a0) (ho : gA E o (.inl (E.2.2.2 4, 1, .inr (.inl f))) H) (hv : Pv (f 0)) : wPost E B a0 o ξ M N code ξ' m' N' Pv H := by
  subst hk hm
  exact ⟨α', M', f, by rw [if_pos rfl, if_pos rfl]; exact h, by rw [if_pos rfl], ha, ho, fun _ => hv⟩
theorem wPost_k {o code : Nat} {ξ' m' : F2} {N' : Nat → Nat} {Pv : Int64 → Prop} {f : Nat → Int64} (hk : code ≠ 0) (h : RB E B α ξ M N H) (ho : gA E o (.inl (E.2.2.2 4, 1, .inr (.inl f))) H) : wPost E B (α 3 0) o ξ M N code ξ' m' N' Pv H :=
  ⟨α, M, f, by rw [if_neg hk, if_neg hk]; exact h, by rw [if_neg hk], rfl, ho, fun z => absurd z hk⟩
def wPostD (E : gV) (B : Nat → Prop) (a0 o : Nat) (ξ : F2) (M : Nat → F2) (N : Nat → Nat) (code : Nat) (Pv : UInt64 → Prop) (H : Heap) : Prop := ∃ (α' : Nat → Nat → Nat) (f : Nat → UInt64), RB E B α' ξ M N H ∧ α' 3 0 = a0 ∧ gA E o (.inl (E.2.2.2 5, 1, .inr (.inr (.inr (.inl f))))) H ∧ (code = 0 → Pv (f 0))
end WPOST
