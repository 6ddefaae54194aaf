/-! RULES FOR Signatory: what lies still, texts, throws, calls by an interface, of a nest mate, casts -/
/-- what was there at the law's start lies still -/
def gFz (E : gV) (H : Heap) : Prop := ∀ q : Nat, q < E.2.1.heap.size → H[q]? = E.2.1.heap[q]?
abbrev gA0 (E : gV) : Nat → Prop := fun q => E.2.1.heap.size ≤ q
theorem gFz.kept {E : gV} {H H1 : Heap} (h : gFz E H) (hz : ∀ q : Nat, q < E.2.1.heap.size → H1[q]? = H[q]?) : gFz E H1 := fun q hq => (hz q hq).trans (h q hq)
theorem g_zqU {l : Launch} {E : gV} {s : State} {H : Heap} (h : gOK l E) (hW : E.2.1.WarmedH s.vm) (hF : gFz E H) : vx_Zq Bundle.tN "UNASSIGNED_STACK" Bundle.steD (gA0 E) s H :=
  (vx_Zq.moved hW.alike (vx_Zqof (A := gA0 E) (h.2.1 _ k_73) (h.2.1 _ k_6) (flat_of_before _ h.2.2.1 _ (by decide +kernel)) (fun a ha => Nat.not_le.mpr ha))).kept (fun a ha _ => hF a ha)
theorem g_zqN {l : Launch} {E : gV} {s : State} {H : Heap} (h : gOK l E) (hW : E.2.1.WarmedH s.vm) (hF : gFz E H) : vx_Zq Bundle.tN "SUPPRESSED_SENTINEL" Bundle.listD (gA0 E) s H :=
  (vx_Zq.moved hW.alike (vx_Zqof (A := gA0 E) (h.2.1 _ k_75) (h.2.1 _ k_6) (flat_of_before _ h.2.2.1 _ (by decide +kernel)) (fun a ha => Nat.not_le.mpr ha))).kept (fun a ha _ => hF a ha)
theorem g_str {l : Launch} {E : gV} {s : State} {own tx : String} {k : Nat} (h : gOK l E) (hW : E.2.1.WarmedH s.vm) (hk : Cond.stringRef own k tx ∈ lw_tbl) (hex : Cond.exactly (.string own k) "java/lang/String" ∈ flatC (Jvm.Cond.and given_1 narrow_1)) : ∃ sa : Nat, vk_R own k tx sa s := by
  obtain ⟨a, c, cA, kA, q1, -⟩ := Cond.exactly_spec (args := #[Value.ref E.1]) (first := E.2.1) (o := none) (s := E.2.1) (idx := []) (flat_of_before _ h.2.2.1 _ hex)
  exact ⟨a, vk_R.warm hW (vk_R.of (h.2.1 _ hk) q1)⟩
section THROWS
variable {p : Program} {l : Launch} {e : Env} {R : Room} {s : State} {m : MethodId} {args : Array Value} {below : List Frame} {meth : Method} {c : Code} {H : Heap} {locs : List Loc} {cells slots : Nat} {Q : State → Prop}
variable {E : gV} {own : String} {cc cb : ByteArray} {nL nY n index mc ms : Nat} {y : MethodName} {ret : Option FieldType} {rm : Room} {Pre : Heap → Prop} {Qc : Array Value → State → Outcome → State → Prop} {px : String → Prop} {A : Nat → Prop} {b : Nat} {As rest : List Value} {pc : Nat} {ls : Array Slot} {st0 : List Value}
abbrev exN : List String := ["java/lang/RuntimeException", "java/lang/Exception"]
abbrev exB : List Cond := [Cond.declares (Bundle.initS "java/lang/RuntimeException"), Cond.declares (Bundle.initS "java/lang/Exception"), Cond.declares (Bundle.initS "java/lang/Throwable")]
/-- what the tables say for the throw of a class, once a class -/
def gTh (own cls : String) (ik ic : Nat) : Prop := Bundle.fit cls = true ∧ Cond.classLink own ik cls ∈ lw_tbl ∧ Cond.initialized cls ∈ lw_tbl ∧ Cond.castable cls cls ∈ lw_tbl ∧ (∀ w ∈ (vx_atS own ic cls exN).filter goodWord, w ∈ lw_tbl) ∧ (∀ w ∈ (vx_atS own ic cls exN).filter (fun w => !goodWord w), w ∈ Cond.castable cls cls :: exB) ∧ ∀ w ∈ Cond.classLink own ik cls :: Cond.initialized cls :: vx_atS own ic cls exN, vx_ot w = true
theorem g_hat {own cls : String} {ik ic : Nat} (hC : gC l E p s m meth c own cc nL) (hT : gTh own cls ik ic) : ∀ w ∈ vx_atS own ic cls exN, w.before args s = true := by
  obtain ⟨-, -, -, h4, h5, h6, -⟩ := hT
  refine vx_hat (B := Cond.castable cls cls :: exB) (fun w hw => gw hC.1 hC.2.1 (h5 w hw) (List.mem_filter.mp hw).2) h6 (vx_c ?_ (vx_c ?_ (vx_c ?_ (vx_c ?_ vx_n))))
  · exact va_Nw.use rfl (va_Nw.warmC hC.2.1 (va_Nw.of rfl (hC.1.2.1 _ h4)))
  · exact va_Nw.use rfl (va_Nw.warmD hC.2.1 (va_Nw.of rfl (hC.1.2.1 _ k_48)))
  · exact va_Nw.use rfl (va_Nw.warmD hC.2.1 (va_Nw.of rfl (hC.1.2.1 _ k_50)))
  · exact va_Nw.use rfl (va_Nw.warmD hC.2.1 (va_Nw.of rfl (hC.1.2.1 _ k_52)))
theorem g_throw {cls text : String} {ik is ic : Nat} (hC : gC l E p s m meth c own cc nL) (ht : ∀ x ∈ c.exceptionTable.toList, False) (hF : gFz E s.heap) (hT : gTh own cls ik ic) (hstr : Cond.stringRef own is text ∈ lw_tbl) (hex : Cond.exactly (.string own is) "java/lang/String" ∈ flatC (Jvm.Cond.and given_1 narrow_1)) (hls : ls.size = nL)
    (d0 : decode cc pc = .ok (.new ik, 3)) (d3 : decode cc (pc + 3) = .ok (.dup, 1)) (d4 : decode cc (pc + 4) = .ok (.ldc is, 2)) (d6 : decode cc (pc + 6) = .ok (.invokespecial ic, 3)) (d9 : decode cc (pc + 9) = .ok (.athrow, 1))
    (hR : 5 < R.frames ∧ (rest.map fun v => v.category).sum + 82 ≤ R.locals) (hf : cells + 1 ≤ R.cells ∧ slots + 6 ≤ R.slots) (h1 : cells + 1 ≤ mc) (h2 : slots + 6 ≤ ms) (hp : px cls) :
    W p l e R s m args below meth c s.heap [] cells slots (vx_MQ below Qc (gX px) args s mc ms A) (F0 m pc ls rest) := by
  obtain ⟨sa, hsa⟩ := g_str hC.1 hC.2.1 hstr hex
  exact vx_throwS (A := gA0 E) (names := exN) hC.2.2.1 hC.2.2.2.1 hC.1.1 hC.2.2.2.2.2.1 hT.1 (by decide +kernel) (gw hC.1 hC.2.1 hT.2.1 rfl) (gw hC.1 hC.2.1 hT.2.2.1 rfl) hsa (g_hat hC hT) hT.2.2.2.2.2.2 (g_zqU hC.1 hC.2.1 hF) (g_zqN hC.1 hC.2.1 hF) va_S.rf (hls.trans hC.2.2.2.2.1.symm) d0 d3 d4 d6 d9 (fun x hx => (ht x hx).elim)
    hR.1 hR.2 hf.1 hf.2 hC.2.2.2.2.2.2 (fun t _ hz hk => ⟨hp, hz, hk⟩) (fun z hz => nomatch hz) h1 h2
theorem g_throwW {cls text : String} {ik is ic : Nat} (hC : gC l E p s m meth c own cc nL) (ht : ∀ x ∈ c.exceptionTable.toList, False) (hF : gFz E s.heap) (hT : gTh own cls ik ic) (hstr : Cond.stringRef own is text ∈ lw_tbl) (hex : Cond.exactly (.string own is) "java/lang/String" ∈ flatC (Jvm.Cond.and given_1 narrow_1)) (hls : ls.size = nL)
    (d0 : decode cc pc = .ok (.new ik, 3)) (d3 : decode cc (pc + 3) = .ok (.dup, 1)) (d4 : decode cc (pc + 4) = .ok (.ldc_w is, 3)) (d7 : decode cc (pc + 7) = .ok (.invokespecial ic, 3)) (d10 : decode cc (pc + 10) = .ok (.athrow, 1))
    (hR : 5 < R.frames ∧ (rest.map fun v => v.category).sum + 82 ≤ R.locals) (hf : cells + 1 ≤ R.cells ∧ slots + 6 ≤ R.slots) (h1 : cells + 1 ≤ mc) (h2 : slots + 6 ≤ ms) (hp : px cls) :
    W p l e R s m args below meth c s.heap [] cells slots (vx_MQ below Qc (gX px) args s mc ms A) (F0 m pc ls rest) := by
  obtain ⟨sa, hsa⟩ := g_str hC.1 hC.2.1 hstr hex
  exact vx_throwSW (A := gA0 E) (names := exN) hC.2.2.1 hC.2.2.2.1 hC.1.1 hC.2.2.2.2.2.1 hT.1 (by decide +kernel) (gw hC.1 hC.2.1 hT.2.1 rfl) (gw hC.1 hC.2.1 hT.2.2.1 rfl) hsa (g_hat hC hT) hT.2.2.2.2.2.2 (g_zqU hC.1 hC.2.1 hF) (g_zqN hC.1 hC.2.1 hF) va_S.rf (hls.trans hC.2.2.2.2.1.symm) d0 d3 d4 d7 d10 (fun x hx => (ht x hx).elim)
    hR.1 hR.2 hf.1 hf.2 hC.2.2.2.2.2.2 (fun t _ hz hk => ⟨hp, hz, hk⟩) (fun z hz => nomatch hz) h1 h2
/-- a nest mate's static method -/
theorem g_runSN {host : String} (hC : gC l E p s m meth c own cc nL) (hM : gM l E y cb nY ret rm As Pre Qc px A) (hy : gY y cb nY ret n) (hk : Cond.methodLinkNest own index y host ∈ lw_tbl) (hs : Cond.static y ∈ lw_tbl) (hP : Pre H) (hn : As.length = n) (hls : ls.size = nL) (hdg : decode cc pc = .ok (.invokestatic index, 3))
    (hR : rm.frames + 1 ≤ R.frames ∧ 8 + (nY + 11) + rm.locals ≤ R.locals) (hf : cells + rm.cells ≤ R.cells ∧ slots + rm.slots ≤ R.slots) (hst : st0 = As.reverse ++ rest) (hW8 : (rest.map fun v => v.category).sum ≤ 8) :
    vx_Run p l e R s m args below meth c H locs cells slots rm.cells rm.slots (F0 m pc ls st0) rest (Qc As.toArray) (gX px) A := by
  obtain ⟨h1, h2, h3⟩ := hy
  have hws : ∀ w ∈ [Cond.code y cb nY ret], w.before args s = true := fun w hw => by rw [List.mem_singleton.mp hw]; exact gw hC.1 hC.2.1 h2 rfl
  exact vx_runSN (Ts := []) ⟨hC.2.2.1, hC.2.2.2.1, hC.2.2.2.2.1, hC.2.2.2.2.2.1, fun w h => nomatch h⟩ hM ⟨va_cnB (ws' := []) (Ts := [Cond.code y cb nY ret]) n hws (goodIn_sub (fun _ h => h) rfl) rfl rfl rfl (va_Nw.warmM hC.2.1 (va_Nw.of rfl (hC.1.2.1 _ hk))) (gw hC.1 hC.2.1 h1 rfl) h3 hR, gw hC.1 hC.2.1 hs rfl, trivial⟩
    ⟨g_blind, g_pre hC hP⟩ rfl hn hls hst (lv_room (pc := pc) (ls := ls) (rest := st0) (m := m) hW8) hdg hf
/-- a call by an interface: the receiver's class is C -/
def gI (C : String) (x y : MethodName) (n : Nat) : Prop := Cond.selects C x y ∈ lw_tbl ∧ Cond.instanceMethod y ∈ lw_tbl ∧ Cond.declares x ∈ lw_tbl ∧ Cond.interfaceMethod x.cls x.cls x.name x.desc ∈ lw_tbl ∧ Cond.publicMethod y ∈ lw_tbl ∧ Cond.unhidden C x.name x.desc ∈ lw_tbl ∧ Cond.castable C x.cls ∈ lw_tbl ∧ x.cls ≠ "java/lang/invoke/MethodHandle" ∧ x.cls ≠ "java/lang/invoke/VarHandle" ∧ (parseMethodDescriptor x.desc).map (fun d => d.parameters.length) = some n
theorem g_runF {x : MethodName} {C : String} {ci count : Nat} {T : u_T} {N : Nat} (hC : gC l E p s m meth c own cc nL) (hM : gM l E y cb nY ret rm (.ref b :: As) Pre Qc px A) (hy : gY y cb nY ret n) (hk : Cond.methodLink own index x ∈ lw_tbl) (hi : gI C x y n)
    (hb : ∃ fs : List Value, va_at E.2.2.1 vwCl (b, .inr (ci, fs)) H) (hc : vwCl[ci]? = some (C, T, N)) (hP : Pre H) (hn : As.length = n) (hls : ls.size = nL) (hdg : decode cc pc = .ok (.invokeinterface index count, 5))
    (hR : rm.frames + 1 ≤ R.frames ∧ 8 + (nY + 11) + rm.locals ≤ R.locals) (hf : cells + rm.cells ≤ R.cells ∧ slots + rm.slots ≤ R.slots) (hst : st0 = As.reverse ++ .ref b :: rest) (hW8 : (rest.map fun v => v.category).sum ≤ 8) :
    vx_Run5 p l e R s m args below meth c H locs cells slots rm.cells rm.slots (F0 m pc ls st0) rest (Qc (Value.ref b :: As).toArray) (gX px) A := by
  obtain ⟨fs, hb⟩ := hb
  obtain ⟨i1, i2, i3, i4, i5, i6, i7, i8, i9, i10⟩ := hi
  obtain ⟨h1, h2, h3⟩ := hy
  have hF : va_Fw C x y s := va_Fw.moved ⟨i8, i9⟩ hC.2.1.alike (va_Fw.of (hC.1.2.1 _ i3) (hC.1.2.1 _ i4) (hC.1.2.1 _ i5) (hC.1.2.1 _ i6) (hC.1.2.1 _ i7))
  have hat := (gK hC.1 hC.2.1).1 ci _ hc
  have hws : ∀ w ∈ va_wsF own index C x y [Cond.code y cb nY ret], w.before args s = true := fun w hw => by
    have hg : w ∈ lw_tbl ∧ goodWord w = true := by
      simp only [va_wsF, List.mem_append, List.mem_cons, List.mem_nil_iff, or_false] at hw
      rcases hw with (rfl | rfl | rfl | rfl) | rfl
      · exact ⟨hk, rfl⟩
      · exact ⟨i1, rfl⟩
      · exact ⟨i2, rfl⟩
      · exact ⟨h1, rfl⟩
      · exact ⟨h2, rfl⟩
    exact gw hC.1 hC.2.1 hg.1 hg.2
  exact vx_runF (Ts := []) (C := C) hat.2 ⟨hC.2.2.1, hC.2.2.2.1, hC.2.2.2.2.1, hC.2.2.2.2.2.1, fun w h => nomatch h⟩ hM (va_cwF (ws' := []) (Ts := va_wsF own index C x y [Cond.code y cb nY ret]) n hws (goodIn_sub (fun _ h => h) rfl) rfl rfl rfl hF ⟨i8, i9, i10⟩ hR)
    ⟨g_blind, va_recv (ws := [(b, .inr (ci, fs))]) (q0 := 0) (gK hC.1 hC.2.1) (fun k q h => by
      cases k with
      | zero => cases h; exact hb
      | succ k => cases h) hc rfl, g_pre hC hP⟩ rfl hn hls hst (lv_room (pc := pc) (ls := ls) (rest := st0) (m := m) hW8) hdg hf
theorem g_cRF {post : Option Value → Prop} {a : Array Value} {mc ms : Nat} (hr : vx_Run5 p l e R s m args below meth c H locs cells slots mc ms (F0 m pc ls st0) rest (gQR post a) (gX px) gN)
    (kx : gKx p l e R s m args below meth c H locs (cells + mc) (slots + ms) Q (F0 m pc ls rest) px)
    (kk : ∀ v : Option Value, post v → W p l e R s m args below meth c H locs (cells + mc) (slots + ms) Q (F0 m (pc + 5) ls (v.toList ++ rest))) : W p l e R s m args below meth c H locs cells slots Q (F0 m pc ls st0) := by
  intro T hT X
  rcases hr T hT X with ⟨v, st₀, t, T', L, h0, X', hL, e1, e2, ⟨v', hv, hp, hh⟩, st⟩ | ⟨q, st₀, t, T', L, E', ce, h0, X', hL, e1, e2, ⟨hp, hz, hk⟩, hce, hcv, hcl, st⟩
  · cases hv
    have hL' := gL_nil hL
    subst hL'
    rw [List.append_nil] at X'
    obtain ⟨t2, a1, b1⟩ := kk _ hp T' (by rw [e1, hh, h0]) X'
    exact ⟨t2, st t2 a1, b1⟩
  · have hL' := gL_nil hL
    subst hL'
    rw [List.append_nil] at X'
    rw [h0] at hz hk
    obtain ⟨t2, a1, b1⟩ := kx E' ce q T'.heap hp (by rw [e1]; exact hz) (fun a ha => by rw [e1]; exact hk a ha) (by rw [e1]; exact hce) hcv hcl T' rfl X'
    exact ⟨t2, st.trans a1, b1⟩
theorem g_cRFi {P : Int32 → Prop} {a : Array Value} {mc ms k2 n2 : Nat} (hr : vx_Run5 p l e R s m args below meth c H locs cells slots mc ms (F0 m pc ls st0) rest (gQR (gPi P) a) (gX px) gN)
    (hc : cells + mc = k2) (hs : slots + ms = n2) (kx : gKx p l e R s m args below meth c H locs k2 n2 Q (F0 m pc ls rest) px)
    (kk : ∀ r : Int32, P r → W p l e R s m args below meth c H locs k2 n2 Q (F0 m (pc + 5) ls (.int r :: rest))) : W p l e R s m args below meth c H locs cells slots Q (F0 m pc ls st0) := by
  subst hc hs
  exact g_cRF hr kx (fun v h => by obtain ⟨r, rfl, h⟩ := h; exact kk r h)
theorem g_cRFr {P : Nat → Prop} {a : Array Value} {mc ms k2 n2 : Nat} (hr : vx_Run5 p l e R s m args below meth c H locs cells slots mc ms (F0 m pc ls st0) rest (gQR (gPr P) a) (gX px) gN)
    (hc : cells + mc = k2) (hs : slots + ms = n2) (kx : gKx p l e R s m args below meth c H locs k2 n2 Q (F0 m pc ls rest) px)
    (kk : ∀ r : Nat, P r → W p l e R s m args below meth c H locs k2 n2 Q (F0 m (pc + 5) ls (.ref r :: rest))) : W p l e R s m args below meth c H locs cells slots Q (F0 m pc ls st0) := by
  subst hc hs
  exact g_cRF hr kx (fun v h => by obtain ⟨r, rfl, h⟩ := h; exact kk r h)
theorem g_cWFi {P : Int32 → Heap → Prop} {A' : Nat → Prop} {H0 : Heap} {a : Array Value} {mc ms k2 n2 : Nat} (hr : vx_Run5 p l e R s m args below meth c H locs cells slots mc ms (F0 m pc ls st0) rest (gQW A' (gWi P) a) (gX (fun _ => False)) A') (hS : va_S A H0 H locs) (hAA : ∀ q, A' q → A q) (hc : cells + mc = k2) (hs : slots + ms = n2)
    (kk : ∀ (r : Int32) (H1 : Heap) (locs1 : List Loc), P r H1 → H.size ≤ H1.size → (∀ q : Nat, q < H.size → ¬ A' q → H1[q]? = H[q]?) → va_S A H0 H1 locs1 → W p l e R s m args below meth c H1 locs1 k2 n2 Q (F0 m (pc + 5) ls (.int r :: rest))) : W p l e R s m args below meth c H locs cells slots Q (F0 m pc ls st0) := by
  subst hc hs
  intro T hT X
  rcases hr T hT X with ⟨v, st₀, t, T', L, h0, X', hL, e1, e2, ⟨v', hv, ⟨r, rfl, hp⟩, hF⟩, st⟩ | ⟨q, st₀, t, T', L, E', ce, h0, X', hL, e1, e2, ⟨hp, hz, hk⟩, hce, hcv, hcl, st⟩
  · cases hv
    obtain ⟨k1, k2, k3⟩ := vx_keep h0 e1 hS (fun q _ h => hAA q h) hAA hL hF
    obtain ⟨t2, a1, b1⟩ := kk r T'.heap (locs ++ L) (by rw [e1]; exact hp) k1 k2 k3 T' rfl X'
    exact ⟨t2, st t2 a1, b1⟩
  · exact hp.elim
/-- a cast to the object's own class -/
theorem g_cast2 {nm : String} {ci : Nat} {fs : List Value} {T : u_T} {N : Nat} (hC : gC l E p s m meth c own cc nL) (hb : gA E b (.inr (ci, fs)) H) (hc : vwCl[ci]? = some (nm, T, N)) (hk : Cond.classLink own index nm ∈ lw_tbl) (hdg : decode cc pc = .ok (.checkcast index, 3))
    (kk : W p l e R s m args below meth c H locs cells slots Q (F0 m (pc + 3) ls (.ref b :: rest))) : W p l e R s m args below meth c H locs cells slots Q (F0 m pc ls (.ref b :: rest)) :=
  va_castS hC.2.2.1 hC.2.2.2.1 hC.2.2.2.2.2.1 (gw hC.1 hC.2.1 hk rfl) ((gK hC.1 hC.2.1).1 ci _ hc).2 (va_recv (ws := [(b, .inr (ci, fs))]) (q0 := 0) (gK hC.1 hC.2.1) hb.one hc rfl) hdg kk
end THROWS
theorem th_36 : gTh "Signatory" "java/lang/IllegalStateException" 36 40 := ⟨by decide +kernel, k_254, k_9, k_256, by decide +kernel, by decide +kernel, by decide +kernel⟩
theorem th_47 : gTh "Signatory" "java/lang/IllegalArgumentException" 47 51 := ⟨by decide +kernel, k_116, k_12, k_118, by decide +kernel, by decide +kernel, by decide +kernel⟩
theorem th_116 : gTh "Signatory" "java/lang/UnsupportedOperationException" 116 120 := ⟨by decide +kernel, k_537, k_20, k_539, by decide +kernel, by decide +kernel, by decide +kernel⟩
theorem th_289 : gTh "Signatory" "java/lang/IndexOutOfBoundsException" 289 293 := ⟨by decide +kernel, k_44, k_11, k_46, by decide +kernel, by decide +kernel, by decide +kernel⟩
theorem sx_38 : Cond.exactly (.string "Signatory" 38) "java/lang/String" ∈ flatC (Jvm.Cond.and given_1 narrow_1) := by decide +kernel
theorem sx_49 : Cond.exactly (.string "Signatory" 49) "java/lang/String" ∈ flatC (Jvm.Cond.and given_1 narrow_1) := by decide +kernel
theorem sx_63 : Cond.exactly (.string "Signatory" 63) "java/lang/String" ∈ flatC (Jvm.Cond.and given_1 narrow_1) := by decide +kernel
theorem sx_76 : Cond.exactly (.string "Signatory" 76) "java/lang/String" ∈ flatC (Jvm.Cond.and given_1 narrow_1) := by decide +kernel
theorem sx_118 : Cond.exactly (.string "Signatory" 118) "java/lang/String" ∈ flatC (Jvm.Cond.and given_1 narrow_1) := by decide +kernel
theorem sx_125 : Cond.exactly (.string "Signatory" 125) "java/lang/String" ∈ flatC (Jvm.Cond.and given_1 narrow_1) := by decide +kernel
theorem sx_137 : Cond.exactly (.string "Signatory" 137) "java/lang/String" ∈ flatC (Jvm.Cond.and given_1 narrow_1) := by decide +kernel
theorem sx_213 : Cond.exactly (.string "Signatory" 213) "java/lang/String" ∈ flatC (Jvm.Cond.and given_1 narrow_1) := by decide +kernel
theorem sx_258 : Cond.exactly (.string "Signatory" 258) "java/lang/String" ∈ flatC (Jvm.Cond.and given_1 narrow_1) := by decide +kernel
theorem sx_275 : Cond.exactly (.string "Signatory" 275) "java/lang/String" ∈ flatC (Jvm.Cond.and given_1 narrow_1) := by decide +kernel
theorem sx_284 : Cond.exactly (.string "Signatory" 284) "java/lang/String" ∈ flatC (Jvm.Cond.and given_1 narrow_1) := by decide +kernel
theorem sx_291 : Cond.exactly (.string "Signatory" 291) "java/lang/String" ∈ flatC (Jvm.Cond.and given_1 narrow_1) := by decide +kernel
theorem sx_294 : Cond.exactly (.string "Signatory" 294) "java/lang/String" ∈ flatC (Jvm.Cond.and given_1 narrow_1) := by decide +kernel
theorem sx_296 : Cond.exactly (.string "Signatory" 296) "java/lang/String" ∈ flatC (Jvm.Cond.and given_1 narrow_1) := by decide +kernel
theorem sx_298 : Cond.exactly (.string "Signatory" 298) "java/lang/String" ∈ flatC (Jvm.Cond.and given_1 narrow_1) := by decide +kernel
theorem sx_303 : Cond.exactly (.string "Signatory" 303) "java/lang/String" ∈ flatC (Jvm.Cond.and given_1 narrow_1) := by decide +kernel
theorem sx_305 : Cond.exactly (.string "Signatory" 305) "java/lang/String" ∈ flatC (Jvm.Cond.and given_1 narrow_1) := by decide +kernel
theorem sx_307 : Cond.exactly (.string "Signatory" 307) "java/lang/String" ∈ flatC (Jvm.Cond.and given_1 narrow_1) := by decide +kernel
theorem sx_309 : Cond.exactly (.string "Signatory" 309) "java/lang/String" ∈ flatC (Jvm.Cond.and given_1 narrow_1) := by decide +kernel
theorem sx_311 : Cond.exactly (.string "Signatory" 311) "java/lang/String" ∈ flatC (Jvm.Cond.and given_1 narrow_1) := by decide +kernel
theorem sx_313 : Cond.exactly (.string "Signatory" 313) "java/lang/String" ∈ flatC (Jvm.Cond.and given_1 narrow_1) := by decide +kernel
theorem sx_315 : Cond.exactly (.string "Signatory" 315) "java/lang/String" ∈ flatC (Jvm.Cond.and given_1 narrow_1) := by decide +kernel
theorem sx_317 : Cond.exactly (.string "Signatory" 317) "java/lang/String" ∈ flatC (Jvm.Cond.and given_1 narrow_1) := by decide +kernel
theorem sx_319 : Cond.exactly (.string "Signatory" 319) "java/lang/String" ∈ flatC (Jvm.Cond.and given_1 narrow_1) := by decide +kernel
theorem sx_321 : Cond.exactly (.string "Signatory" 321) "java/lang/String" ∈ flatC (Jvm.Cond.and given_1 narrow_1) := by decide +kernel
theorem F_Jx4a65c_size_8abf5 : gI "java/util/ArrayList" ⟨"java/util/List", "size", "()I"⟩ yJx4a65c_size_8abf5 0 := ⟨k_169, k_171, k_167, k_166, k_172, k_170, k_168, by decide +kernel, by decide +kernel, by decide +kernel⟩
theorem F_Jx4a65c_get_915e3 : gI "java/util/ArrayList" ⟨"java/util/List", "get", "(I)Ljava/lang/Object;"⟩ yJx4a65c_get_915e3 1 := ⟨k_372, k_374, k_371, k_370, k_375, k_373, k_168, by decide +kernel, by decide +kernel, by decide +kernel⟩
theorem F_Jx4a65c_add_9ea2d : gI "java/util/ArrayList" ⟨"java/util/List", "add", "(Ljava/lang/Object;)Z"⟩ yJx4a65c_add_9ea2d 1 := ⟨k_178, k_180, k_177, k_176, k_181, k_179, k_168, by decide +kernel, by decide +kernel, by decide +kernel⟩
